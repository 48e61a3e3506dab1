


theorem tldI_fr {v z : Nat → Int32} {fa fz : Nat → Nat → Int32} {k o : Int} (h : z 41 = v 41) (h1 : fz 10 = fa 10) (h2 : fz 11 = fa 11) : tldI z fz k o = tldI v fa k o := by
  unfold tldI
  rw [h, h1, h2]
theorem gonI_fr {v z : Nat → Int32} {fa fz : Nat → Nat → Int32} {a : Nat} (h : z 41 = v 41) (h1 : fz 10 = fa 10) (h2 : fz 11 = fa 11) (h3 : fz 21 a = fa 21 a) (h4 : fz 26 a = fa 26 a) : gonI z fz a = gonI v fa a := by
  unfold gonI
  rw [tldI_fr h h1 h2, tldI_fr h h1 h2, h3, h4]
def enP (v : Nat → Int32) (fa : Nat → Nat → Int32) (x : Int) (a : Nat) : Prop := (fa 21 a).toInt = x ∧ gonI v fa a = 1
noncomputable def enF (v : Nat → Int32) (fa : Nat → Nat → Int32) (x : Int) (n a : Nat) : Int32 := @ite Int32 (a < n ∧ enP v fa x a) (Classical.propDecidable _) (v 38) (fa 26 a)
noncomputable def enG (v : Nat → Int32) (fa : Nat → Nat → Int32) (x : Int) (a : Nat) : Int := @ite Int (enP v fa x a) (Classical.propDecidable _) 1 0
theorem cgI_G {v : Nat → Int32} {fa : Nat → Nat → Int32} {x : Int} : cgI v fa x = smN (enG v fa x) (v 43).toNatClampNeg := by
  unfold cgI
  refine smN_c (fun j _ => ?_)
  unfold enG enP
  split <;> first | rfl | (split <;> first | rfl | omega)
theorem enF_0 {v : Nat → Int32} {fa : Nat → Nat → Int32} {x : Int} {n : Nat} (h : n = 0) : (fun a => enF v fa x n a) = fa 26 := funext fun a => by
  unfold enF
  exact if_neg (fun q => by omega)
theorem enF_n {v : Nat → Int32} {fa : Nat → Nat → Int32} {x : Int} {n n1 : Nat} (h : ¬ enP v fa x n) (e : n1 = n + 1) : (fun a => enF v fa x n1 a) = fun a => enF v fa x n a := funext fun a => by
  subst e
  unfold enF
  by_cases q : a < n ∧ enP v fa x a
  · rw [if_pos q, if_pos ⟨by omega, q.2⟩]
  · rw [if_neg q, if_neg (fun g => q ⟨by rcases Nat.lt_or_ge a n with k | k; exact k; exact absurd (by rw [show n = a by omega]; exact g.2) h, g.2⟩)]
theorem enF_t {v : Nat → Int32} {fa : Nat → Nat → Int32} {x : Int} {n n1 : Nat} (h : enP v fa x n) (e : n1 = n + 1) : (fun a => enF v fa x n1 a) = upd (fun a => enF v fa x n a) n (v 38) := funext fun a => by
  subst e
  by_cases k : a = n
  · subst k
    unfold enF
    rw [if_pos ⟨by omega, h⟩]
    exact (if_pos rfl).symm
  · refine Eq.trans ?_ (if_neg k).symm
    show enF v fa x (n + 1) a = enF v fa x n a
    unfold enF
    by_cases q : a < n ∧ enP v fa x a
    · rw [if_pos q, if_pos ⟨by omega, q.2⟩]
    · rw [if_neg q, if_neg (fun g => q ⟨by omega, g.2⟩)]
theorem enF_at {v : Nat → Int32} {fa : Nat → Nat → Int32} {x : Int} {n : Nat} : enF v fa x n n = fa 26 n := by
  unfold enF
  exact if_neg (fun q => by omega)
/-- a voyage has ended -/
def enN (v : Nat → Int32) (fa : Nat → Nat → Int32) (x : Int32) (u : (Nat → Int32) × (Nat → Nat → Int32)) : Prop := u.2 9 = upd (fa 9) x.toNatClampNeg (v 38) ∧ u.2 26 = fun a => enF v fa x.toInt (v 43).toNatClampNeg a
/-- behind i agreements -/
def enI (v : Nat → Int32) (fa : Nat → Nat → Int32) (x : Int) (n : Int) (i : Nat) (fz : Nat → Nat → Int32) : Prop := fz 26 = (fun a => enF v fa x i a) ∧ n = smN (enG v fa x) i
theorem enI_0 {v : Nat → Int32} {fa : Nat → Nat → Int32} {x n : Int} {i : Nat} (hi : i = 0) (hn : n = 0) : enI v fa x n i fa := ⟨(enF_0 hi).symm, by rw [hi, hn]; rfl⟩
theorem enI_n {v z : Nat → Int32} {fa fz : Nat → Nat → Int32} {x n : Int} {i i1 : Nat} (h : enI v fa x n i fz) (hX : mX [0, 9, 26] v fa z fz) (e : i1 = i + 1) (hn : (fz 21 i).toInt ≠ x ∨ gonI z fz i = 0) : enI v fa x n i1 fz := by
  have hp : ¬ enP v fa x i := fun q => by
    have e1 : gonI z fz i = gonI v fa i := gonI_fr (hX.1 41 (by decide +kernel)) (hX.2 10 (by decide +kernel)) (hX.2 11 (by decide +kernel)) (congrFun (hX.2 21 (by decide +kernel)) i) (by rw [h.1]; exact enF_at)
    have e2 : (fz 21 i) = fa 21 i := congrFun (hX.2 21 (by decide +kernel)) i
    have q1 := q.1
    have q2 := q.2
    rw [← e2] at q1
    omega
  refine ⟨by rw [h.1, enF_n hp e], ?_⟩
  rw [e, smN_s, h.2, show enG v fa x i = 0 from if_neg hp]
  omega
theorem enI_t {v z : Nat → Int32} {fa fz fy : Nat → Nat → Int32} {x n n1 : Int} {i i1 : Nat} {y : Int32} (h : enI v fa x n i fz) (hX : mX [0, 9, 26] v fa z fz) (e : i1 = i + 1) (h1 : (fz 21 i).toInt = x) (h2 : gonI z fz i = 1) (ef : fy 26 = upd (fz 26) i y) (ey : y = v 38) (en : n1 = n + 1) : enI v fa x n1 i1 fy := by
  have e1 : gonI z fz i = gonI v fa i := gonI_fr (hX.1 41 (by decide +kernel)) (hX.2 10 (by decide +kernel)) (hX.2 11 (by decide +kernel)) (congrFun (hX.2 21 (by decide +kernel)) i) (by rw [h.1]; exact enF_at)
  have e2 : (fz 21 i) = fa 21 i := congrFun (hX.2 21 (by decide +kernel)) i
  have hp : enP v fa x i := ⟨by rw [← e2]; exact h1, by rw [← e1]; exact h2⟩
  refine ⟨by rw [ef, h.1, enF_t hp e, ey], ?_⟩
  rw [e, smN_s, en, h.2, show enG v fa x i = 1 from if_pos hp]
set_option maxHeartbeats 4000000 in
set_option maxRecDepth 100000 in
theorem c_X11_ended_f (l : Launch) (dC : Nat → ClassId) (dI : Nat → Nat → Nat) (sz : Nat) (g0 : Nat) (pq : Nat → Nat) (cp : Nat → ClassId) (v : Nat → Int32) (fa : Nat → Nat → Int32) (gV : mV v) (gA : mA fa) (x1 : Int32) (x2 : Int32) : Met l yX11_ended wsX11_ended ({ frames := 2, cells := 0, slots := 0, locals := 44 }) (va_Pc [.ref g0, .int x1, .int x2] (pcW (dC, dI) (mT cp) (mW g0 pq cp v fa) sz)) (va_Qi (fun (r : Int32) (u : (Nat → Int32) × (Nat → Nat → Int32)) => mV u.1 ∧ mA u.2 ∧ mX [0, 9, 26] v fa u.1 u.2 ∧ (aEn x1.toInt (v 40).toInt x2.toInt (fa 9 x1.toNatClampNeg).toInt (tldI v fa 2 x1.toInt) (cgI v fa x1.toInt) r.toInt ∧ rOr v fa u r (enN v fa x1 u))) (fun u t => va_P (dC, dI) vwCl (mW g0 pq cp u.1 u.2) t.heap ∧ va_K (dC, dI) vwCl (mT cp) t ∧ va_D (va_A (mW g0 pq cp v fa) sz) (mW g0 pq cp u.1 u.2)) (va_A (mW g0 pq cp v fa) sz)) 0 0 (va_A (mW g0 pq cp v fa) sz) := by
  refine Met.ofW (cc := cX11_ended) (maxL := 5) (ret := (some .int)) (by decide +kernel) rfl ?_
  intro p e s m args below meth c s₁ B hml hv
  obtain ⟨rfl, hsz, hP, hK, hD0⟩ := hv
  have hx := B.exec
  have hb := B.bytes
  have hr := B.returns
  have hts := atoms_spec (ws := wsX11_ended) B.pre
  have hown : s.vm.findClass RX11 = some m.cls := findClass_of_methodNamed B.named
  have hlocks := B.notSynchronized
  subst hsz
  have hD := hD0.self (sz := s.heap.size)
  generalize hAe : va_A (mW g0 pq cp v fa) s.heap.size = A at hD ⊢
  have hA : ∀ q : Nat, s.heap.size ≤ q → A q := fun q h => by rw [← hAe]; exact Or.inr h
  have hS : va_S A s.heap s.heap [] := va_S.rf
  have hP : va_P (dC, dI) vwCl (mW g0 pq cp v fa) s.heap := hP
  have hl := lv_entry ([.ref g0, .int x1, .int x2]) (n := 5) (Nat.le_of_ble_eq_true rfl)
  rw [lg_entry_eq]
  generalize (lg_sl ([.ref g0, .int x1, .int x2]) ++ List.replicate (5 - (lg_sl ([.ref g0, .int x1, .int x2])).length) Slot.unset).toArray = ls at hl ⊢
  have hl : lv_has ls 5 [(0, .ref g0), (1, .int x1), (2, .int x2)] := hl
  have iv_1 : 0 ≤ (v 38).toInt ∧ (v 38).toInt ≤ 3000 := gV 38
  have iv_2 : 0 ≤ (v 40).toInt ∧ (v 40).toInt ≤ 20 := gV 40
  have iv_3 : 0 ≤ (v 43).toInt ∧ (v 43).toInt ≤ 60 := gV 43
  refine lv_aload_n hx hb dX11_ended_0 rfl (lv_at hl 0 rfl) ?_
  refine lv_iload_n hx hb dX11_ended_1 rfl (lv_at hl 1 rfl) ?_
  have hFc : ∀ q, va_A [] s.heap.size q → A q := pu_free hS hA
  refine va_calli (va_runV (As := [.int x1]) (rest := []) ⟨hx, hb, hml, hown, hts⟩ (c_X11_isVoyage l dC dI s.heap.size g0 pq cp v fa x1) (cwV 1 hts gX11_ended_X11_isVoyage rfl rfl rfl (by decide +kernel) ⟨(Nat.le_of_ble_eq_true rfl), (Nat.le_of_ble_eq_true rfl)⟩) (pr_V (r := (RX11, TX11, 63)) hP hK hD 0 11 rfl rfl) rfl rfl hl.1 rfl (lv_room (Nat.le_of_ble_eq_true rfl)) dX11_ended_2 ⟨(Nat.le_of_ble_eq_true rfl), (Nat.le_of_ble_eq_true rfl)⟩) hS (fun q _ h => hFc q h) hFc (fun r_5 u t H locs ht hvm w_4 hB hz1 hk1 hS => ?_)
  have hP := pu_keep hP hk1
  clear hk1 hz1 hvm hB ht hFc
  have hbr_5 : 0 ≤ r_5.toInt ∧ r_5.toInt ≤ 1 := iv_of w_4 (isI_i _ _)
  refine lv_if_eq (tgt := 15) hx hb dX11_ended_5 (by decide +kernel) (fun c_6 => ?_) (fun c_6 => ?_)
  · have dc_6 := c_eq (a := r_5.toInt) (b := 0) rfl (by decide +kernel) c_6
    have hz_7 := isI_0 (w_4.symm.trans c_6)
    refine lv_aload_n hx hb dX11_ended_15 rfl (lv_at hl 0 rfl) ?_
    refine lv_iconst (v := (-1)) hx hb dX11_ended_16 (by decide +kernel) ?_
    have hFc := va_free (wc := (mW g0 pq cp v fa)) hD hS hA (List.range 48) rfl
    refine va_calli (va_runV (As := [.int (-1)]) (rest := []) ⟨hx, hb, hml, hown, hts⟩ (c_X11_refuse_f l dC dI H.size g0 pq cp v fa (-1) (by unfold vp_in; decide)) (cwV 1 hts gX11_ended_X11_refuse rfl rfl rfl (by decide +kernel) ⟨(Nat.le_of_ble_eq_true rfl), (Nat.le_of_ble_eq_true rfl)⟩) (pr_V (r := (RX11, TX11, 63)) hP hK hD 0 11 rfl rfl) rfl rfl hl.1 rfl (lv_room (Nat.le_of_ble_eq_true rfl)) dX11_ended_17 ⟨(Nat.le_of_ble_eq_true rfl), (Nat.le_of_ble_eq_true rfl)⟩) hS (fun q _ h => hFc q h) hFc (fun r_9 u t H locs ht hvm w_8 hB hz1 hk1 hS => ?_)
    obtain ⟨v_10, fa_11⟩ := u
    obtain ⟨hP1, hK1, hD1⟩ := hB
    rw [ht] at hP1
    have hP : va_P (dC, dI) vwCl (mW g0 pq cp v_10 fa_11) H := hP1
    have hD : va_D A (mW g0 pq cp v_10 fa_11) := hD1.weaken (fun _ _ _ h => hFc _ h)
    clear hP1 hK1 hD1 hk1 hz1 hvm ht hFc
    obtain ⟨rfl, hs1_12⟩ := w_8
    have hVv_10 : mV v_10 := sm0_V (sm1_0 hs1_12) gV
    have hAv_10 : mA fa_11 := sm0_A (sm1_0 hs1_12) gA
    have g_13 : (v_10 38).toInt = (v 38).toInt := congrArg Int32.toInt (congrFun hs1_12.1 38)
    have g_14 : (v_10 40).toInt = (v 40).toInt := congrArg Int32.toInt (congrFun hs1_12.1 40)
    have g_15 : (v_10 43).toInt = (v 43).toInt := congrArg Int32.toInt (congrFun hs1_12.1 43)
    have hRv_10 : mX [0, 9, 26] v fa v_10 fa_11 := mX.st mX.rf (mX.s0 (sm1_0 hs1_12)) (by decide +kernel)
    exact W.iret (v := (-1)) hx hb hr (fun t ht hW => ⟨⟨(-1), (v_10, fa_11), rfl, ⟨hVv_10, hAv_10, hRv_10, ⟨by have rc : ((-1) : Int32).toInt = -1 := (by decide +kernel); (first | exact Or.inl ⟨by omega, by omega⟩ | (unfold aEn; omega)), (Or.inl ⟨by decide, hs1_12⟩)⟩⟩, ⟨by rw [ht]; exact hP, va_K.moved hW.alike hK, hD⟩⟩, hS.F ht⟩) hS.2.2 dX11_ended_20
  · have dc_6 := c_ne (a := r_5.toInt) (b := 0) rfl (by decide +kernel) c_6
    have hi_16 := isI_t w_4 (fun q => c_6 (Int32.toInt_inj.mp q))
    have khi_16 : (v 40).toInt ≤ 20 := (gV 40).2
    refine lv_iload_n hx hb dX11_ended_8 rfl (lv_at hl 2 rfl) ?_
    have hFc : ∀ q, va_A [] H.size q → A q := pu_free hS hA
    have hPc := hP.sub (ws' := []) [] rfl
    have hDc := hD.sub (ws' := []) [] (by decide +kernel) rfl
    have hKc := hK.sub (tys' := []) [] rfl
    refine va_calli (va_runS (As := [.int x2]) (rest := []) ⟨hx, hb, hml, hown, hts⟩ (c_X11_isPort l dC dI H.size x2) (va_cwS 1 hts gX11_ended_X11_isPort rfl rfl rfl (by decide +kernel) ⟨(Nat.le_of_ble_eq_true rfl), (Nat.le_of_ble_eq_true rfl)⟩) (pr_S hPc hKc hDc) rfl rfl hl.1 rfl (lv_room (Nat.le_of_ble_eq_true rfl)) dX11_ended_9 ⟨(Nat.le_of_ble_eq_true rfl), (Nat.le_of_ble_eq_true rfl)⟩) hS (fun q _ h => hFc q h) hFc (fun r_18 u t H locs ht hvm w_17 hB hz1 hk1 hS => ?_)
    have hP := pu_keep hP hk1
    clear hk1 hz1 hvm hB ht hFc hPc hDc hKc
    have hbr_18 : 0 ≤ r_18.toInt ∧ r_18.toInt ≤ 1 := iv_of w_17 (isI_i _ _)
    refine lv_if_ne (tgt := 21) hx hb dX11_ended_12 (by decide +kernel) (fun c_19 => ?_) (fun c_19 => ?_)
    · have dc_19 := c_ne (a := r_18.toInt) (b := 0) rfl (by decide +kernel) c_19
      have hi_20 := isI_t w_17 (fun q => c_19 (Int32.toInt_inj.mp q))
      have khi_20 : (10 : Int32).toInt = 10 := by decide
      refine lv_aload_n hx hb dX11_ended_21 rfl (lv_at hl 0 rfl) ?_
      refine va_get (D := (dC, dI)) (ci := 11) (v := .ref (pq 9)) (C := RX11) (T := TX11) (N := 63) hx hb hts in_wsX11_ended_X11 hown hK hP 0 rfl rfl 9 (by decide +kernel) (hts (.fieldLink RX11 37 "ShipOfficeModel" "endedOn" "[I") iw_X11_ended_1) (fun _ h9 => h9) rfl dX11_ended_22 ?_
      refine lv_iload_n hx hb dX11_ended_25 rfl (lv_at hl 1 rfl) ?_
      refine va_iald hx hb hK hP 10 9 rfl rfl (vp_in_iff.mpr (by omega)) dX11_ended_26 ?_
      refine lv_topi (fun x_21 ex_21 => ?_)
      have gx_21 : x_21.toInt = (fa 9 (x1 : Int32).toNatClampNeg).toInt := iv_to ex_21
      clear ex_21
      refine lv_if_ge (tgt := 39) hx hb dX11_ended_27 (by decide +kernel) (fun c_22 => ?_) (fun c_22 => ?_)
      · have dc_22 := c_le (a := 0) (b := x_21.toInt) (by decide +kernel) rfl c_22
        refine lv_aload_n hx hb dX11_ended_39 rfl (lv_at hl 0 rfl) ?_
        refine lv_bipush (v := (-3)) hx hb dX11_ended_40 (by decide +kernel) ?_
        have hFc := va_free (wc := (mW g0 pq cp v fa)) hD hS hA (List.range 48) rfl
        refine va_calli (va_runV (As := [.int (-3)]) (rest := []) ⟨hx, hb, hml, hown, hts⟩ (c_X11_refuse_f l dC dI H.size g0 pq cp v fa (-3) (by unfold vp_in; decide)) (cwV 1 hts gX11_ended_X11_refuse rfl rfl rfl (by decide +kernel) ⟨(Nat.le_of_ble_eq_true rfl), (Nat.le_of_ble_eq_true rfl)⟩) (pr_V (r := (RX11, TX11, 63)) hP hK hD 0 11 rfl rfl) rfl rfl hl.1 rfl (lv_room (Nat.le_of_ble_eq_true rfl)) dX11_ended_42 ⟨(Nat.le_of_ble_eq_true rfl), (Nat.le_of_ble_eq_true rfl)⟩) hS (fun q _ h => hFc q h) hFc (fun r_24 u t H locs ht hvm w_23 hB hz1 hk1 hS => ?_)
        obtain ⟨v_25, fa_26⟩ := u
        obtain ⟨hP1, hK1, hD1⟩ := hB
        rw [ht] at hP1
        have hP : va_P (dC, dI) vwCl (mW g0 pq cp v_25 fa_26) H := hP1
        have hD : va_D A (mW g0 pq cp v_25 fa_26) := hD1.weaken (fun _ _ _ h => hFc _ h)
        clear hP1 hK1 hD1 hk1 hz1 hvm ht hFc
        obtain ⟨rfl, hs1_27⟩ := w_23
        have hVv_25 : mV v_25 := sm0_V (sm1_0 hs1_27) gV
        have hAv_25 : mA fa_26 := sm0_A (sm1_0 hs1_27) gA
        have g_28 : (v_25 38).toInt = (v 38).toInt := congrArg Int32.toInt (congrFun hs1_27.1 38)
        have g_29 : (v_25 40).toInt = (v 40).toInt := congrArg Int32.toInt (congrFun hs1_27.1 40)
        have g_30 : (v_25 43).toInt = (v 43).toInt := congrArg Int32.toInt (congrFun hs1_27.1 43)
        have hRv_25 : mX [0, 9, 26] v fa v_25 fa_26 := mX.st mX.rf (mX.s0 (sm1_0 hs1_27)) (by decide +kernel)
        exact W.iret (v := (-3)) hx hb hr (fun t ht hW => ⟨⟨(-3), (v_25, fa_26), rfl, ⟨hVv_25, hAv_25, hRv_25, ⟨by have rc : ((-3) : Int32).toInt = -3 := (by decide +kernel); (first | exact Or.inr (Or.inl ⟨by omega, by omega, by omega⟩) | (unfold aEn; omega)), (Or.inl ⟨by decide, hs1_27⟩)⟩⟩, ⟨by rw [ht]; exact hP, va_K.moved hW.alike hK, hD⟩⟩, hS.F ht⟩) hS.2.2 dX11_ended_45
      · have dc_22 := c_nle (a := 0) (b := x_21.toInt) (by decide +kernel) rfl c_22
        refine lv_aload_n hx hb dX11_ended_30 rfl (lv_at hl 0 rfl) ?_
        refine lv_iconst (v := 2) hx hb dX11_ended_31 (by decide +kernel) ?_
        refine lv_iload_n hx hb dX11_ended_32 rfl (lv_at hl 1 rfl) ?_
        have hFc : ∀ q, va_A [] H.size q → A q := pu_free hS hA
        refine va_calli (va_runV (As := [.int 2, .int x1]) (rest := []) ⟨hx, hb, hml, hown, hts⟩ (c_X11_wasTold_f l dC dI H.size g0 pq cp v fa gV gA 2 x1) (cwV 2 hts gX11_ended_X11_wasTold rfl rfl rfl (by decide +kernel) ⟨(Nat.le_of_ble_eq_true rfl), (Nat.le_of_ble_eq_true rfl)⟩) (pr_V (r := (RX11, TX11, 63)) hP hK hD 0 11 rfl rfl) rfl rfl hl.1 rfl (lv_room (Nat.le_of_ble_eq_true rfl)) dX11_ended_33 ⟨(Nat.le_of_ble_eq_true rfl), (Nat.le_of_ble_eq_true rfl)⟩) hS (fun q _ h => hFc q h) hFc (fun r_32 u t H locs ht hvm w_31 hB hz1 hk1 hS => ?_)
        have hP := pu_keep hP hk1
        clear hk1 hz1 hvm hB ht hFc
        obtain ⟨hb_33, hx_34⟩ := w_31
        try rw [show (2 : Int32).toInt = 2 from (by decide +kernel)] at hx_34
        refine lv_if_eq (tgt := 46) hx hb dX11_ended_36 (by decide +kernel) (fun c_35 => ?_) (fun c_35 => ?_)
        · have dc_35 := c_eq (a := r_32.toInt) (b := 0) rfl (by decide +kernel) c_35
          refine lv_iconst (v := 0) hx hb dX11_ended_46 (by decide +kernel) ?_
          refine lv_istore_n (lv' := [(3, .int 0), (0, .ref g0), (1, .int x1), (2, .int x2)]) hx hb dX11_ended_47 rfl hl (by decide +kernel) rfl (fun ls hl => ?_)
          refine lv_iconst (v := 0) hx hb dX11_ended_48 (by decide +kernel) ?_
          refine lv_istore (lv' := [(4, .int 0), (3, .int 0), (0, .ref g0), (1, .int x1), (2, .int x2)]) hx hb dX11_ended_49 hl (by decide +kernel) rfl (fun ls hl => ?_)
          have cut_36 : ∀ (n : Nat) (y_37 : Int32) (y_38 : Int32) (z_39 : Nat → Int32) (fz_40 : Nat → Nat → Int32) (H : Heap) (locs : List Loc) (ls : Array Slot), 60 - y_37.toInt ≤ (n : Int) → (0 ≤ y_37.toInt ∧ y_37.toInt ≤ 60) → (0 ≤ y_38.toInt ∧ y_38.toInt ≤ 60) → enI v fa x1.toInt y_38.toInt y_37.toNatClampNeg fz_40 → y_38.toInt ≤ y_37.toInt → fz_40 0 = fa 0 → fz_40 9 = fa 9 → y_37.toInt ≤ (v 43).toInt → mV z_39 → mA fz_40 → mX [0, 9, 26] v fa z_39 fz_40 → va_P (dC, dI) vwCl (mW g0 pq cp z_39 fz_40) H → va_D A (mW g0 pq cp z_39 fz_40) → va_S A s.heap H locs → (z_39 38).toInt = (v 38).toInt → (z_39 40).toInt = (v 40).toInt → (z_39 43).toInt = (v 43).toInt → lv_has ls 5 [(4, .int y_37), (3, .int y_38), (0, .ref g0), (1, .int x1), (2, .int x2)] → W p l e (headSpec wsX11_ended { frames := 2, cells := 0, slots := 0, locals := 44 }).room s m #[Value.ref g0, Value.int x1, Value.int x2] below meth c H locs 0 0 (MQ below (va_Qi (fun (r : Int32) (u : (Nat → Int32) × (Nat → Nat → Int32)) => mV u.1 ∧ mA u.2 ∧ mX [0, 9, 26] v fa u.1 u.2 ∧ (aEn x1.toInt (v 40).toInt x2.toInt (fa 9 x1.toNatClampNeg).toInt (tldI v fa 2 x1.toInt) (cgI v fa x1.toInt) r.toInt ∧ rOr v fa u r (enN v fa x1 u))) (fun u t => va_P (dC, dI) vwCl (mW g0 pq cp u.1 u.2) t.heap ∧ va_K (dC, dI) vwCl (mT cp) t ∧ va_D A (mW g0 pq cp u.1 u.2)) A) #[Value.ref g0, Value.int x1, Value.int x2] s 0 0 A) (F0 m 51 ls []) := by
            intro n
            induction n using Nat.strongRecOn with
            | ind n ih =>
              intro y_37 y_38 z_39 fz_40 H locs ls hm hy_37 hy_38 hq0_cut_36 hq1_cut_36 hq2_cut_36 hq3_cut_36 hq4_cut_36 hVz_39 hAz_39 hRz_39 hP hD hS g_41 g_42 g_43 hl
              refine lv_iload hx hb dX11_ended_51 (lv_at hl 0 rfl) ?_
              refine lv_aload_n hx hb dX11_ended_53 rfl (lv_at hl 2 rfl) ?_
              refine va_get (D := (dC, dI)) (ci := 11) (v := .int (z_39 43)) (C := RX11) (T := TX11) (N := 63) hx hb hts in_wsX11_ended_X11 hown hK hP 0 rfl rfl 43 (by decide +kernel) (hts (.fieldLink RX11 168 "ShipOfficeModel" "agreements" "I") iw_X11_ended_2) (fun _ h9 => h9) rfl dX11_ended_54 ?_
              refine lv_topi (fun x_44 ex_44 => ?_)
              have hx_44 : 0 ≤ x_44.toInt ∧ x_44.toInt ≤ 60 := iv_of ex_44 (hVz_39 43)
              have gx_44 : x_44.toInt = (z_39 43).toInt := iv_to ex_44
              clear ex_44
              refine lv_icmp_ge (tgt := 103) hx hb dX11_ended_57 (by decide +kernel) (fun c_45 => ?_) (fun c_45 => ?_)
              · have dc_45 := c_le (a := x_44.toInt) (b := y_37.toInt) rfl rfl c_45
                refine lv_aload_n hx hb dX11_ended_103 rfl (lv_at hl 2 rfl) ?_
                refine va_get (D := (dC, dI)) (ci := 11) (v := .ref (pq 9)) (C := RX11) (T := TX11) (N := 63) hx hb hts in_wsX11_ended_X11 hown hK hP 0 rfl rfl 9 (by decide +kernel) (hts (.fieldLink RX11 37 "ShipOfficeModel" "endedOn" "[I") iw_X11_ended_1) (fun _ h9 => h9) rfl dX11_ended_104 ?_
                refine lv_iload_n hx hb dX11_ended_107 rfl (lv_at hl 3 rfl) ?_
                refine lv_aload_n hx hb dX11_ended_108 rfl (lv_at hl 2 rfl) ?_
                refine va_get (D := (dC, dI)) (ci := 11) (v := .int (z_39 38)) (C := RX11) (T := TX11) (N := 63) hx hb hts in_wsX11_ended_X11 hown hK hP 0 rfl rfl 38 (by decide +kernel) (hts (.fieldLink RX11 171 "ShipOfficeModel" "now" "I") iw_X11_ended_3) (fun _ h9 => h9) rfl dX11_ended_109 ?_
                refine lv_topi (fun x_46 ex_46 => ?_)
                have hx_46 : 0 ≤ x_46.toInt ∧ x_46.toInt ≤ 3000 := iv_of ex_46 (hVz_39 38)
                have gx_46 : x_46.toInt = (z_39 38).toInt := iv_to ex_46
                clear ex_46
                refine va_iast hx hb hK hP hD hS 10 9 rfl rfl (vp_in_iff.mpr (by omega)) dX11_ended_112 (fun H locs hP hD hS => ?_)
                have hP : va_P (dC, dI) vwCl (mW g0 pq cp z_39 (upF fz_40 9 (x1 : Int32).toNatClampNeg x_46)) H := hP
                have hD : va_D A (mW g0 pq cp z_39 (upF fz_40 9 (x1 : Int32).toNatClampNeg x_46)) := hD
                obtain ⟨fz_47, efz_47⟩ : ∃ zq, zq = (upF fz_40 9 (x1 : Int32).toNatClampNeg x_46) := ⟨_, rfl⟩
                rw [← efz_47] at hP hD
                have hAfz_47 : mA fz_47 := by rw [efz_47]; exact mA_upF (lo := -2147483648) (hi := 2147483647) hAz_39 rfl rfl (iv_all _)
                have hRfz_47 : mX [0, 9, 26] v fa z_39 fz_47 := by rw [efz_47]; exact mX.uF hRz_39 (by decide +kernel)
                have q0_48 : fz_47 0 = fa 0 := by rw [efz_47]; exact (if_neg (by decide +kernel)).trans hq2_cut_36
                refine lv_iload_n hx hb dX11_ended_113 rfl (lv_at hl 1 rfl) ?_
                exact W.iret (v := y_38) hx hb hr (fun t ht hW => ⟨⟨y_38, (z_39, fz_47), rfl, ⟨hVz_39, hAfz_47, hRfz_47, ⟨by have hc := cgI_G (v := v) (fa := fa) (x := x1.toInt); have hn := hq0_cut_36.2; rw [show y_37.toNatClampNeg = (v 43).toNatClampNeg from (show y_37.toInt.toNat = (v 43).toInt.toNat by omega), ← hc] at hn; (first | exact Or.inr (Or.inr ⟨by omega, by omega, by omega, by omega⟩) | (unfold aEn; omega)), Or.inr ⟨by omega, (by dsimp only; exact q0_48), by dsimp only; rw [efz_47, show (x_46 : Int32) = v 38 from Int32.toInt_inj.mp (by omega)]; refine (if_pos rfl).trans ?_; rw [hq3_cut_36], by dsimp only; rw [efz_47]; refine (if_neg (by decide +kernel)).trans ?_; rw [hq0_cut_36.1, show y_37.toNatClampNeg = (v 43).toNatClampNeg from (show y_37.toInt.toNat = (v 43).toInt.toNat by omega)]⟩⟩⟩, ⟨by rw [ht]; exact hP, va_K.moved hW.alike hK, hD⟩⟩, hS.F ht⟩) hS.2.2 dX11_ended_114
              · have dc_45 := c_nle (a := x_44.toInt) (b := y_37.toInt) rfl rfl c_45
                refine lv_aload_n hx hb dX11_ended_60 rfl (lv_at hl 2 rfl) ?_
                refine va_get (D := (dC, dI)) (ci := 11) (v := .ref (pq 21)) (C := RX11) (T := TX11) (N := 63) hx hb hts in_wsX11_ended_X11 hown hK hP 0 rfl rfl 21 (by decide +kernel) (hts (.fieldLink RX11 73 "ShipOfficeModel" "voyage" "[I") iw_X11_ended_4) (fun _ h9 => h9) rfl dX11_ended_61 ?_
                refine lv_iload hx hb dX11_ended_64 (lv_at hl 0 rfl) ?_
                refine va_iald hx hb hK hP 22 21 rfl rfl (vp_in_iff.mpr (by omega)) dX11_ended_66 ?_
                refine lv_topi (fun x_49 ex_49 => ?_)
                have hx_49 : 0 ≤ x_49.toInt ∧ x_49.toInt ≤ 19 := iv_of ex_49 (hAz_39 21 _)
                have gx_49 : x_49.toInt = (fz_40 21 (y_37 : Int32).toNatClampNeg).toInt := iv_to ex_49
                clear ex_49
                refine lv_iload_n hx hb dX11_ended_67 rfl (lv_at hl 3 rfl) ?_
                refine lv_icmp_ne (tgt := 97) hx hb dX11_ended_68 (by decide +kernel) (fun c_50 => ?_) (fun c_50 => ?_)
                · have dc_50 := c_ne (a := x_49.toInt) (b := x1.toInt) rfl rfl c_50
                  obtain ⟨x_51, ex_51⟩ : ∃ zq : Int32, y_37 + 1 = zq := ⟨_, rfl⟩
                  have hx_51 : x_51.toInt = y_37.toInt + 1 := (iv_to ex_51).symm.trans (ad_i rfl (by decide +kernel) (by omega) (by omega))
                  refine lv_iinc (v := x_51) (lv' := [(4, .int x_51), (3, .int y_38), (0, .ref g0), (1, .int x1), (2, .int x2)]) hx hb dX11_ended_97 hl (k := 0) rfl ex_51 (by decide +kernel) rfl (fun ls hl => ?_)
                  clear ex_51
                  refine lv_goto (tgt := 51) hx hb dX11_ended_100 (by decide +kernel) ?_
                  exact ih (n - 1) (by omega) x_51 y_38 z_39 fz_40 _ _ ls (by omega) (by omega) (by omega) (enI_n hq0_cut_36 hRz_39 (show x_51.toInt.toNat = y_37.toInt.toNat + 1 by omega) (by omega)) (by omega) hq2_cut_36 hq3_cut_36 (by omega) hVz_39 hAz_39 hRz_39 hP hD hS (by omega) (by omega) (by omega) (lv_sub hl [0, 1, 2, 3, 4] rfl)
                · have dc_50 := c_eq (a := x_49.toInt) (b := x1.toInt) rfl rfl c_50
                  refine lv_aload_n hx hb dX11_ended_71 rfl (lv_at hl 2 rfl) ?_
                  refine lv_iload hx hb dX11_ended_72 (lv_at hl 0 rfl) ?_
                  have hFc : ∀ q, va_A [] H.size q → A q := pu_free hS hA
                  refine va_calli (va_runV (As := [.int y_37]) (rest := []) ⟨hx, hb, hml, hown, hts⟩ (c_X11_goesOn_f l dC dI H.size g0 pq cp z_39 fz_40 hVz_39 hAz_39 y_37 (by omega)) (cwV 1 hts gX11_ended_X11_goesOn rfl rfl rfl (by decide +kernel) ⟨(Nat.le_of_ble_eq_true rfl), (Nat.le_of_ble_eq_true rfl)⟩) (pr_V (r := (RX11, TX11, 63)) hP hK hD 0 11 rfl rfl) rfl rfl hl.1 rfl (lv_room (Nat.le_of_ble_eq_true rfl)) dX11_ended_74 ⟨(Nat.le_of_ble_eq_true rfl), (Nat.le_of_ble_eq_true rfl)⟩) hS (fun q _ h => hFc q h) hFc (fun r_53 u t H locs ht hvm w_52 hB hz1 hk1 hS => ?_)
                  have hP := pu_keep hP hk1
                  clear hk1 hz1 hvm hB ht hFc
                  obtain ⟨hb_54, hx_55⟩ := w_52
                  refine lv_if_ne (tgt := 83) hx hb dX11_ended_77 (by decide +kernel) (fun c_56 => ?_) (fun c_56 => ?_)
                  · have dc_56 := c_ne (a := r_53.toInt) (b := 0) rfl (by decide +kernel) c_56
                    refine lv_aload_n hx hb dX11_ended_83 rfl (lv_at hl 2 rfl) ?_
                    refine va_get (D := (dC, dI)) (ci := 11) (v := .ref (pq 26)) (C := RX11) (T := TX11) (N := 63) hx hb hts in_wsX11_ended_X11 hown hK hP 0 rfl rfl 26 (by decide +kernel) (hts (.fieldLink RX11 88 "ShipOfficeModel" "offOn" "[I") iw_X11_ended_5) (fun _ h9 => h9) rfl dX11_ended_84 ?_
                    refine lv_iload hx hb dX11_ended_87 (lv_at hl 0 rfl) ?_
                    refine lv_aload_n hx hb dX11_ended_89 rfl (lv_at hl 2 rfl) ?_
                    refine va_get (D := (dC, dI)) (ci := 11) (v := .int (z_39 38)) (C := RX11) (T := TX11) (N := 63) hx hb hts in_wsX11_ended_X11 hown hK hP 0 rfl rfl 38 (by decide +kernel) (hts (.fieldLink RX11 171 "ShipOfficeModel" "now" "I") iw_X11_ended_3) (fun _ h9 => h9) rfl dX11_ended_90 ?_
                    refine lv_topi (fun x_57 ex_57 => ?_)
                    have hx_57 : 0 ≤ x_57.toInt ∧ x_57.toInt ≤ 3000 := iv_of ex_57 (hVz_39 38)
                    have gx_57 : x_57.toInt = (z_39 38).toInt := iv_to ex_57
                    clear ex_57
                    refine va_iast hx hb hK hP hD hS 27 26 rfl rfl (vp_in_iff.mpr (by omega)) dX11_ended_93 (fun H locs hP hD hS => ?_)
                    have hP : va_P (dC, dI) vwCl (mW g0 pq cp z_39 (upF fz_40 26 (y_37 : Int32).toNatClampNeg x_57)) H := hP
                    have hD : va_D A (mW g0 pq cp z_39 (upF fz_40 26 (y_37 : Int32).toNatClampNeg x_57)) := hD
                    obtain ⟨fz_58, efz_58⟩ : ∃ zq, zq = (upF fz_40 26 (y_37 : Int32).toNatClampNeg x_57) := ⟨_, rfl⟩
                    rw [← efz_58] at hP hD
                    have hAfz_58 : mA fz_58 := by rw [efz_58]; exact mA_upF (lo := -2147483648) (hi := 2147483647) hAz_39 rfl rfl (iv_all _)
                    have hRfz_58 : mX [0, 9, 26] v fa z_39 fz_58 := by rw [efz_58]; exact mX.uF hRz_39 (by decide +kernel)
                    have g_59 : (fz_58 21 (y_37 : Int32).toNatClampNeg).toInt = (fz_40 21 (y_37 : Int32).toNatClampNeg).toInt := by rw [efz_58]; exact uF_ne (by decide +kernel)
                    have q0_60 : fz_58 0 = fa 0 := by rw [efz_58]; exact (if_neg (by decide +kernel)).trans hq2_cut_36
                    obtain ⟨x_61, ex_61⟩ : ∃ zq : Int32, y_38 + 1 = zq := ⟨_, rfl⟩
                    have hx_61 : x_61.toInt = y_38.toInt + 1 := (iv_to ex_61).symm.trans (ad_i rfl (by decide +kernel) (by omega) (by omega))
                    refine lv_iinc (v := x_61) (lv' := [(3, .int x_61), (4, .int y_37), (0, .ref g0), (1, .int x1), (2, .int x2)]) hx hb dX11_ended_94 hl (k := 1) rfl ex_61 (by decide +kernel) rfl (fun ls hl => ?_)
                    clear ex_61
                    obtain ⟨x_62, ex_62⟩ : ∃ zq : Int32, y_37 + 1 = zq := ⟨_, rfl⟩
                    have hx_62 : x_62.toInt = y_37.toInt + 1 := (iv_to ex_62).symm.trans (ad_i rfl (by decide +kernel) (by omega) (by omega))
                    refine lv_iinc (v := x_62) (lv' := [(4, .int x_62), (3, .int x_61), (0, .ref g0), (1, .int x1), (2, .int x2)]) hx hb dX11_ended_97 hl (k := 1) rfl ex_62 (by decide +kernel) rfl (fun ls hl => ?_)
                    clear ex_62
                    refine lv_goto (tgt := 51) hx hb dX11_ended_100 (by decide +kernel) ?_
                    exact ih (n - 1) (by omega) x_62 x_61 z_39 fz_58 _ _ ls (by omega) (by omega) (by omega) (enI_t hq0_cut_36 hRz_39 (show x_62.toInt.toNat = y_37.toInt.toNat + 1 by omega) (by omega) (by omega) (by rw [efz_58]; exact if_pos rfl) (Int32.toInt_inj.mp (by omega)) (by omega)) (by omega) q0_60 (by rw [efz_58]; exact (if_neg (by decide +kernel)).trans hq3_cut_36) (by omega) hVz_39 hAfz_58 hRfz_58 hP hD hS (by omega) (by omega) (by omega) (lv_sub hl [0, 1, 2, 3, 4] rfl)
                  · have dc_56 := c_eq (a := r_53.toInt) (b := 0) rfl (by decide +kernel) c_56
                    refine lv_goto (tgt := 97) hx hb dX11_ended_80 (by decide +kernel) ?_
                    obtain ⟨x_63, ex_63⟩ : ∃ zq : Int32, y_37 + 1 = zq := ⟨_, rfl⟩
                    have hx_63 : x_63.toInt = y_37.toInt + 1 := (iv_to ex_63).symm.trans (ad_i rfl (by decide +kernel) (by omega) (by omega))
                    refine lv_iinc (v := x_63) (lv' := [(4, .int x_63), (3, .int y_38), (0, .ref g0), (1, .int x1), (2, .int x2)]) hx hb dX11_ended_97 hl (k := 0) rfl ex_63 (by decide +kernel) rfl (fun ls hl => ?_)
                    clear ex_63
                    refine lv_goto (tgt := 51) hx hb dX11_ended_100 (by decide +kernel) ?_
                    exact ih (n - 1) (by omega) x_63 y_38 z_39 fz_40 _ _ ls (by omega) (by omega) (by omega) (enI_n hq0_cut_36 hRz_39 (show x_63.toInt.toNat = y_37.toInt.toNat + 1 by omega) (by omega)) (by omega) hq2_cut_36 hq3_cut_36 (by omega) hVz_39 hAz_39 hRz_39 hP hD hS (by omega) (by omega) (by omega) (lv_sub hl [0, 1, 2, 3, 4] rfl)
          have kc_64 : (0 : Int32).toInt = 0 := by decide
          exact cut_36 61 0 0 v fa _ _ ls (by omega) (by decide +kernel) (by decide +kernel) (enI_0 (by decide +kernel) (by decide +kernel)) (by decide +kernel) rfl rfl (by have rc : (0 : Int32).toInt = 0 := (by decide +kernel); omega) gV gA mX.rf hP hD hS (by omega) (by omega) (by omega) (lv_sub hl [0, 1, 2, 3, 4] rfl)
        · have dc_35 := c_ne (a := r_32.toInt) (b := 0) rfl (by decide +kernel) c_35
          refine lv_aload_n hx hb dX11_ended_39 rfl (lv_at hl 0 rfl) ?_
          refine lv_bipush (v := (-3)) hx hb dX11_ended_40 (by decide +kernel) ?_
          have hFc := va_free (wc := (mW g0 pq cp v fa)) hD hS hA (List.range 48) rfl
          refine va_calli (va_runV (As := [.int (-3)]) (rest := []) ⟨hx, hb, hml, hown, hts⟩ (c_X11_refuse_f l dC dI H.size g0 pq cp v fa (-3) (by unfold vp_in; decide)) (cwV 1 hts gX11_ended_X11_refuse rfl rfl rfl (by decide +kernel) ⟨(Nat.le_of_ble_eq_true rfl), (Nat.le_of_ble_eq_true rfl)⟩) (pr_V (r := (RX11, TX11, 63)) hP hK hD 0 11 rfl rfl) rfl rfl hl.1 rfl (lv_room (Nat.le_of_ble_eq_true rfl)) dX11_ended_42 ⟨(Nat.le_of_ble_eq_true rfl), (Nat.le_of_ble_eq_true rfl)⟩) hS (fun q _ h => hFc q h) hFc (fun r_66 u t H locs ht hvm w_65 hB hz1 hk1 hS => ?_)
          obtain ⟨v_67, fa_68⟩ := u
          obtain ⟨hP1, hK1, hD1⟩ := hB
          rw [ht] at hP1
          have hP : va_P (dC, dI) vwCl (mW g0 pq cp v_67 fa_68) H := hP1
          have hD : va_D A (mW g0 pq cp v_67 fa_68) := hD1.weaken (fun _ _ _ h => hFc _ h)
          clear hP1 hK1 hD1 hk1 hz1 hvm ht hFc
          obtain ⟨rfl, hs1_69⟩ := w_65
          have hVv_67 : mV v_67 := sm0_V (sm1_0 hs1_69) gV
          have hAv_67 : mA fa_68 := sm0_A (sm1_0 hs1_69) gA
          have g_70 : (v_67 38).toInt = (v 38).toInt := congrArg Int32.toInt (congrFun hs1_69.1 38)
          have g_71 : (v_67 40).toInt = (v 40).toInt := congrArg Int32.toInt (congrFun hs1_69.1 40)
          have g_72 : (v_67 43).toInt = (v 43).toInt := congrArg Int32.toInt (congrFun hs1_69.1 43)
          have hRv_67 : mX [0, 9, 26] v fa v_67 fa_68 := mX.st mX.rf (mX.s0 (sm1_0 hs1_69)) (by decide +kernel)
          exact W.iret (v := (-3)) hx hb hr (fun t ht hW => ⟨⟨(-3), (v_67, fa_68), rfl, ⟨hVv_67, hAv_67, hRv_67, ⟨by have rc : ((-3) : Int32).toInt = -3 := (by decide +kernel); (first | exact Or.inr (Or.inl ⟨by omega, by omega, by omega⟩) | (unfold aEn; omega)), (Or.inl ⟨by decide, hs1_69⟩)⟩⟩, ⟨by rw [ht]; exact hP, va_K.moved hW.alike hK, hD⟩⟩, hS.F ht⟩) hS.2.2 dX11_ended_45
    · have dc_19 := c_eq (a := r_18.toInt) (b := 0) rfl (by decide +kernel) c_19
      have hz_73 := isI_0 (w_17.symm.trans c_19)
      have kc_74 : (10 : Int32).toInt = 10 := by decide
      refine lv_aload_n hx hb dX11_ended_15 rfl (lv_at hl 0 rfl) ?_
      refine lv_iconst (v := (-1)) hx hb dX11_ended_16 (by decide +kernel) ?_
      have hFc := va_free (wc := (mW g0 pq cp v fa)) hD hS hA (List.range 48) rfl
      refine va_calli (va_runV (As := [.int (-1)]) (rest := []) ⟨hx, hb, hml, hown, hts⟩ (c_X11_refuse_f l dC dI H.size g0 pq cp v fa (-1) (by unfold vp_in; decide)) (cwV 1 hts gX11_ended_X11_refuse rfl rfl rfl (by decide +kernel) ⟨(Nat.le_of_ble_eq_true rfl), (Nat.le_of_ble_eq_true rfl)⟩) (pr_V (r := (RX11, TX11, 63)) hP hK hD 0 11 rfl rfl) rfl rfl hl.1 rfl (lv_room (Nat.le_of_ble_eq_true rfl)) dX11_ended_17 ⟨(Nat.le_of_ble_eq_true rfl), (Nat.le_of_ble_eq_true rfl)⟩) hS (fun q _ h => hFc q h) hFc (fun r_76 u t H locs ht hvm w_75 hB hz1 hk1 hS => ?_)
      obtain ⟨v_77, fa_78⟩ := u
      obtain ⟨hP1, hK1, hD1⟩ := hB
      rw [ht] at hP1
      have hP : va_P (dC, dI) vwCl (mW g0 pq cp v_77 fa_78) H := hP1
      have hD : va_D A (mW g0 pq cp v_77 fa_78) := hD1.weaken (fun _ _ _ h => hFc _ h)
      clear hP1 hK1 hD1 hk1 hz1 hvm ht hFc
      obtain ⟨rfl, hs1_79⟩ := w_75
      have hVv_77 : mV v_77 := sm0_V (sm1_0 hs1_79) gV
      have hAv_77 : mA fa_78 := sm0_A (sm1_0 hs1_79) gA
      have g_80 : (v_77 38).toInt = (v 38).toInt := congrArg Int32.toInt (congrFun hs1_79.1 38)
      have g_81 : (v_77 40).toInt = (v 40).toInt := congrArg Int32.toInt (congrFun hs1_79.1 40)
      have g_82 : (v_77 43).toInt = (v 43).toInt := congrArg Int32.toInt (congrFun hs1_79.1 43)
      have hRv_77 : mX [0, 9, 26] v fa v_77 fa_78 := mX.st mX.rf (mX.s0 (sm1_0 hs1_79)) (by decide +kernel)
      exact W.iret (v := (-1)) hx hb hr (fun t ht hW => ⟨⟨(-1), (v_77, fa_78), rfl, ⟨hVv_77, hAv_77, hRv_77, ⟨by have rc : ((-1) : Int32).toInt = -1 := (by decide +kernel); (first | exact Or.inl ⟨by omega, by omega⟩ | (unfold aEn; omega)), (Or.inl ⟨by decide, hs1_79⟩)⟩⟩, ⟨by rw [ht]; exact hP, va_K.moved hW.alike hK, hD⟩⟩, hS.F ht⟩) hS.2.2 dX11_ended_20
set_option maxHeartbeats 4000000 in
set_option maxRecDepth 100000 in
theorem c_X11_off_f (l : Launch) (dC : Nat → ClassId) (dI : Nat → Nat → Nat) (sz : Nat) (g0 : Nat) (pq : Nat → Nat) (cp : Nat → ClassId) (v : Nat → Int32) (fa : Nat → Nat → Int32) (gV : mV v) (gA : mA fa) (x1 : Int32) (x2 : Int32) : Met l yX11_off wsX11_off ({ frames := 2, cells := 0, slots := 0, locals := 44 }) (va_Pc [.ref g0, .int x1, .int x2] (pcW (dC, dI) (mT cp) (mW g0 pq cp v fa) sz)) (va_Qi (fun (r : Int32) (u : (Nat → Int32) × (Nat → Nat → Int32)) => mV u.1 ∧ mA u.2 ∧ mX [0, 26] v fa u.1 u.2 ∧ (aOf x1.toInt (v 43).toInt x2.toInt (gonI v fa x1.toNatClampNeg) r.toInt ∧ rOr v fa u r (u.2 26 = upd (fa 26) x1.toNatClampNeg (v 38)))) (fun u t => va_P (dC, dI) vwCl (mW g0 pq cp u.1 u.2) t.heap ∧ va_K (dC, dI) vwCl (mT cp) t ∧ va_D (va_A (mW g0 pq cp v fa) sz) (mW g0 pq cp u.1 u.2)) (va_A (mW g0 pq cp v fa) sz)) 0 0 (va_A (mW g0 pq cp v fa) sz) := by
  refine Met.ofW (cc := cX11_off) (maxL := 3) (ret := (some .int)) (by decide +kernel) rfl ?_
  intro p e s m args below meth c s₁ B hml hv
  obtain ⟨rfl, hsz, hP, hK, hD0⟩ := hv
  have hx := B.exec
  have hb := B.bytes
  have hr := B.returns
  have hts := atoms_spec (ws := wsX11_off) B.pre
  have hown : s.vm.findClass RX11 = some m.cls := findClass_of_methodNamed B.named
  have hlocks := B.notSynchronized
  subst hsz
  have hD := hD0.self (sz := s.heap.size)
  generalize hAe : va_A (mW g0 pq cp v fa) s.heap.size = A at hD ⊢
  have hA : ∀ q : Nat, s.heap.size ≤ q → A q := fun q h => by rw [← hAe]; exact Or.inr h
  have hS : va_S A s.heap s.heap [] := va_S.rf
  have hP : va_P (dC, dI) vwCl (mW g0 pq cp v fa) s.heap := hP
  have hl := lv_entry ([.ref g0, .int x1, .int x2]) (n := 3) (Nat.le_of_ble_eq_true rfl)
  rw [lg_entry_eq]
  generalize (lg_sl ([.ref g0, .int x1, .int x2]) ++ List.replicate (3 - (lg_sl ([.ref g0, .int x1, .int x2])).length) Slot.unset).toArray = ls at hl ⊢
  have hl : lv_has ls 3 [(0, .ref g0), (1, .int x1), (2, .int x2)] := hl
  have iv_1 : 0 ≤ (v 38).toInt ∧ (v 38).toInt ≤ 3000 := gV 38
  have iv_2 : 0 ≤ (v 43).toInt ∧ (v 43).toInt ≤ 60 := gV 43
  refine lv_aload_n hx hb dX11_off_0 rfl (lv_at hl 0 rfl) ?_
  refine lv_iload_n hx hb dX11_off_1 rfl (lv_at hl 1 rfl) ?_
  have hFc : ∀ q, va_A [] s.heap.size q → A q := pu_free hS hA
  refine va_calli (va_runV (As := [.int x1]) (rest := []) ⟨hx, hb, hml, hown, hts⟩ (c_X11_isAgreement l dC dI s.heap.size g0 pq cp v fa x1) (cwV 1 hts gX11_off_X11_isAgreement rfl rfl rfl (by decide +kernel) ⟨(Nat.le_of_ble_eq_true rfl), (Nat.le_of_ble_eq_true rfl)⟩) (pr_V (r := (RX11, TX11, 63)) hP hK hD 0 11 rfl rfl) rfl rfl hl.1 rfl (lv_room (Nat.le_of_ble_eq_true rfl)) dX11_off_2 ⟨(Nat.le_of_ble_eq_true rfl), (Nat.le_of_ble_eq_true rfl)⟩) hS (fun q _ h => hFc q h) hFc (fun r_4 u t H locs ht hvm w_3 hB hz1 hk1 hS => ?_)
  have hP := pu_keep hP hk1
  clear hk1 hz1 hvm hB ht hFc
  have hbr_4 : 0 ≤ r_4.toInt ∧ r_4.toInt ≤ 1 := iv_of w_3 (isI_i _ _)
  refine lv_if_eq (tgt := 15) hx hb dX11_off_5 (by decide +kernel) (fun c_5 => ?_) (fun c_5 => ?_)
  · have dc_5 := c_eq (a := r_4.toInt) (b := 0) rfl (by decide +kernel) c_5
    have hz_6 := isI_0 (w_3.symm.trans c_5)
    refine lv_aload_n hx hb dX11_off_15 rfl (lv_at hl 0 rfl) ?_
    refine lv_iconst (v := (-1)) hx hb dX11_off_16 (by decide +kernel) ?_
    have hFc := va_free (wc := (mW g0 pq cp v fa)) hD hS hA (List.range 48) rfl
    refine va_calli (va_runV (As := [.int (-1)]) (rest := []) ⟨hx, hb, hml, hown, hts⟩ (c_X11_refuse_f l dC dI H.size g0 pq cp v fa (-1) (by unfold vp_in; decide)) (cwV 1 hts gX11_off_X11_refuse rfl rfl rfl (by decide +kernel) ⟨(Nat.le_of_ble_eq_true rfl), (Nat.le_of_ble_eq_true rfl)⟩) (pr_V (r := (RX11, TX11, 63)) hP hK hD 0 11 rfl rfl) rfl rfl hl.1 rfl (lv_room (Nat.le_of_ble_eq_true rfl)) dX11_off_17 ⟨(Nat.le_of_ble_eq_true rfl), (Nat.le_of_ble_eq_true rfl)⟩) hS (fun q _ h => hFc q h) hFc (fun r_8 u t H locs ht hvm w_7 hB hz1 hk1 hS => ?_)
    obtain ⟨v_9, fa_10⟩ := u
    obtain ⟨hP1, hK1, hD1⟩ := hB
    rw [ht] at hP1
    have hP : va_P (dC, dI) vwCl (mW g0 pq cp v_9 fa_10) H := hP1
    have hD : va_D A (mW g0 pq cp v_9 fa_10) := hD1.weaken (fun _ _ _ h => hFc _ h)
    clear hP1 hK1 hD1 hk1 hz1 hvm ht hFc
    obtain ⟨rfl, hs1_11⟩ := w_7
    have hVv_9 : mV v_9 := sm0_V (sm1_0 hs1_11) gV
    have hAv_9 : mA fa_10 := sm0_A (sm1_0 hs1_11) gA
    have g_12 : (v_9 38).toInt = (v 38).toInt := congrArg Int32.toInt (congrFun hs1_11.1 38)
    have g_13 : (v_9 43).toInt = (v 43).toInt := congrArg Int32.toInt (congrFun hs1_11.1 43)
    have hRv_9 : mX [0, 26] v fa v_9 fa_10 := mX.st mX.rf (mX.s0 (sm1_0 hs1_11)) (by decide +kernel)
    exact W.iret (v := (-1)) hx hb hr (fun t ht hW => ⟨⟨(-1), (v_9, fa_10), rfl, ⟨hVv_9, hAv_9, hRv_9, ⟨by have rc : ((-1) : Int32).toInt = -1 := (by decide +kernel); (first | exact Or.inl ⟨by omega, by omega⟩ | (unfold aOf; omega)), (Or.inl ⟨by decide, hs1_11⟩)⟩⟩, ⟨by rw [ht]; exact hP, va_K.moved hW.alike hK, hD⟩⟩, hS.F ht⟩) hS.2.2 dX11_off_20
  · have dc_5 := c_ne (a := r_4.toInt) (b := 0) rfl (by decide +kernel) c_5
    have hi_14 := isI_t w_3 (fun q => c_5 (Int32.toInt_inj.mp q))
    have khi_14 : (v 43).toInt ≤ 60 := (gV 43).2
    refine lv_iload_n hx hb dX11_off_8 rfl (lv_at hl 2 rfl) ?_
    have hFc : ∀ q, va_A [] H.size q → A q := pu_free hS hA
    have hPc := hP.sub (ws' := []) [] rfl
    have hDc := hD.sub (ws' := []) [] (by decide +kernel) rfl
    have hKc := hK.sub (tys' := []) [] rfl
    refine va_calli (va_runS (As := [.int x2]) (rest := []) ⟨hx, hb, hml, hown, hts⟩ (c_X11_isPort l dC dI H.size x2) (va_cwS 1 hts gX11_off_X11_isPort rfl rfl rfl (by decide +kernel) ⟨(Nat.le_of_ble_eq_true rfl), (Nat.le_of_ble_eq_true rfl)⟩) (pr_S hPc hKc hDc) rfl rfl hl.1 rfl (lv_room (Nat.le_of_ble_eq_true rfl)) dX11_off_9 ⟨(Nat.le_of_ble_eq_true rfl), (Nat.le_of_ble_eq_true rfl)⟩) hS (fun q _ h => hFc q h) hFc (fun r_16 u t H locs ht hvm w_15 hB hz1 hk1 hS => ?_)
    have hP := pu_keep hP hk1
    clear hk1 hz1 hvm hB ht hFc hPc hDc hKc
    have hbr_16 : 0 ≤ r_16.toInt ∧ r_16.toInt ≤ 1 := iv_of w_15 (isI_i _ _)
    refine lv_if_ne (tgt := 21) hx hb dX11_off_12 (by decide +kernel) (fun c_17 => ?_) (fun c_17 => ?_)
    · have dc_17 := c_ne (a := r_16.toInt) (b := 0) rfl (by decide +kernel) c_17
      have hi_18 := isI_t w_15 (fun q => c_17 (Int32.toInt_inj.mp q))
      have khi_18 : (10 : Int32).toInt = 10 := by decide
      refine lv_aload_n hx hb dX11_off_21 rfl (lv_at hl 0 rfl) ?_
      refine lv_iload_n hx hb dX11_off_22 rfl (lv_at hl 1 rfl) ?_
      have hFc : ∀ q, va_A [] H.size q → A q := pu_free hS hA
      refine va_calli (va_runV (As := [.int x1]) (rest := []) ⟨hx, hb, hml, hown, hts⟩ (c_X11_goesOn_f l dC dI H.size g0 pq cp v fa gV gA x1 (by omega)) (cwV 1 hts gX11_off_X11_goesOn rfl rfl rfl (by decide +kernel) ⟨(Nat.le_of_ble_eq_true rfl), (Nat.le_of_ble_eq_true rfl)⟩) (pr_V (r := (RX11, TX11, 63)) hP hK hD 0 11 rfl rfl) rfl rfl hl.1 rfl (lv_room (Nat.le_of_ble_eq_true rfl)) dX11_off_23 ⟨(Nat.le_of_ble_eq_true rfl), (Nat.le_of_ble_eq_true rfl)⟩) hS (fun q _ h => hFc q h) hFc (fun r_20 u t H locs ht hvm w_19 hB hz1 hk1 hS => ?_)
      have hP := pu_keep hP hk1
      clear hk1 hz1 hvm hB ht hFc
      obtain ⟨hb_21, hx_22⟩ := w_19
      refine lv_if_ne (tgt := 36) hx hb dX11_off_26 (by decide +kernel) (fun c_23 => ?_) (fun c_23 => ?_)
      · have dc_23 := c_ne (a := r_20.toInt) (b := 0) rfl (by decide +kernel) c_23
        refine lv_aload_n hx hb dX11_off_36 rfl (lv_at hl 0 rfl) ?_
        refine va_get (D := (dC, dI)) (ci := 11) (v := .ref (pq 26)) (C := RX11) (T := TX11) (N := 63) hx hb hts in_wsX11_off_X11 hown hK hP 0 rfl rfl 26 (by decide +kernel) (hts (.fieldLink RX11 88 "ShipOfficeModel" "offOn" "[I") iw_X11_off_1) (fun _ h9 => h9) rfl dX11_off_37 ?_
        refine lv_iload_n hx hb dX11_off_40 rfl (lv_at hl 1 rfl) ?_
        refine lv_aload_n hx hb dX11_off_41 rfl (lv_at hl 0 rfl) ?_
        refine va_get (D := (dC, dI)) (ci := 11) (v := .int (v 38)) (C := RX11) (T := TX11) (N := 63) hx hb hts in_wsX11_off_X11 hown hK hP 0 rfl rfl 38 (by decide +kernel) (hts (.fieldLink RX11 171 "ShipOfficeModel" "now" "I") iw_X11_off_2) (fun _ h9 => h9) rfl dX11_off_42 ?_
        refine lv_topi (fun x_24 ex_24 => ?_)
        have hx_24 : 0 ≤ x_24.toInt ∧ x_24.toInt ≤ 3000 := iv_of ex_24 (gV 38)
        have gx_24 : x_24.toInt = (v 38).toInt := iv_to ex_24
        clear ex_24
        refine va_iast hx hb hK hP hD hS 27 26 rfl rfl (vp_in_iff.mpr (by omega)) dX11_off_45 (fun H locs hP hD hS => ?_)
        have hP : va_P (dC, dI) vwCl (mW g0 pq cp v (upF fa 26 (x1 : Int32).toNatClampNeg x_24)) H := hP
        have hD : va_D A (mW g0 pq cp v (upF fa 26 (x1 : Int32).toNatClampNeg x_24)) := hD
        obtain ⟨fz_25, efz_25⟩ : ∃ zq, zq = (upF fa 26 (x1 : Int32).toNatClampNeg x_24) := ⟨_, rfl⟩
        rw [← efz_25] at hP hD
        have hAfz_25 : mA fz_25 := by rw [efz_25]; exact mA_upF (lo := -2147483648) (hi := 2147483647) gA rfl rfl (iv_all _)
        have hRfz_25 : mX [0, 26] v fa v fz_25 := by rw [efz_25]; exact mX.uF mX.rf (by decide +kernel)
        have q0_26 : fz_25 0 = fa 0 := by rw [efz_25]; exact (if_neg (by decide +kernel)).trans rfl
        refine lv_iconst (v := 1) hx hb dX11_off_46 (by decide +kernel) ?_
        exact W.iret (v := 1) hx hb hr (fun t ht hW => ⟨⟨1, (v, fz_25), rfl, ⟨gV, hAfz_25, hRfz_25, ⟨by have rc : (1 : Int32).toInt = 1 := (by decide +kernel); (first | exact Or.inr (Or.inr (⟨by omega, by omega, by omega⟩)) | (unfold aOf; omega)), Or.inr ⟨by decide, (by dsimp only; exact q0_26), by dsimp only; rw [efz_25, show (x_24 : Int32) = v 38 from Int32.toInt_inj.mp (by omega)]; rfl⟩⟩⟩, ⟨by rw [ht]; exact hP, va_K.moved hW.alike hK, hD⟩⟩, hS.F ht⟩) hS.2.2 dX11_off_47
      · have dc_23 := c_eq (a := r_20.toInt) (b := 0) rfl (by decide +kernel) c_23
        refine lv_aload_n hx hb dX11_off_29 rfl (lv_at hl 0 rfl) ?_
        refine lv_bipush (v := (-3)) hx hb dX11_off_30 (by decide +kernel) ?_
        have hFc := va_free (wc := (mW g0 pq cp v fa)) hD hS hA (List.range 48) rfl
        refine va_calli (va_runV (As := [.int (-3)]) (rest := []) ⟨hx, hb, hml, hown, hts⟩ (c_X11_refuse_f l dC dI H.size g0 pq cp v fa (-3) (by unfold vp_in; decide)) (cwV 1 hts gX11_off_X11_refuse rfl rfl rfl (by decide +kernel) ⟨(Nat.le_of_ble_eq_true rfl), (Nat.le_of_ble_eq_true rfl)⟩) (pr_V (r := (RX11, TX11, 63)) hP hK hD 0 11 rfl rfl) rfl rfl hl.1 rfl (lv_room (Nat.le_of_ble_eq_true rfl)) dX11_off_32 ⟨(Nat.le_of_ble_eq_true rfl), (Nat.le_of_ble_eq_true rfl)⟩) hS (fun q _ h => hFc q h) hFc (fun r_28 u t H locs ht hvm w_27 hB hz1 hk1 hS => ?_)
        obtain ⟨v_29, fa_30⟩ := u
        obtain ⟨hP1, hK1, hD1⟩ := hB
        rw [ht] at hP1
        have hP : va_P (dC, dI) vwCl (mW g0 pq cp v_29 fa_30) H := hP1
        have hD : va_D A (mW g0 pq cp v_29 fa_30) := hD1.weaken (fun _ _ _ h => hFc _ h)
        clear hP1 hK1 hD1 hk1 hz1 hvm ht hFc
        obtain ⟨rfl, hs1_31⟩ := w_27
        have hVv_29 : mV v_29 := sm0_V (sm1_0 hs1_31) gV
        have hAv_29 : mA fa_30 := sm0_A (sm1_0 hs1_31) gA
        have g_32 : (v_29 38).toInt = (v 38).toInt := congrArg Int32.toInt (congrFun hs1_31.1 38)
        have g_33 : (v_29 43).toInt = (v 43).toInt := congrArg Int32.toInt (congrFun hs1_31.1 43)
        have hRv_29 : mX [0, 26] v fa v_29 fa_30 := mX.st mX.rf (mX.s0 (sm1_0 hs1_31)) (by decide +kernel)
        exact W.iret (v := (-3)) hx hb hr (fun t ht hW => ⟨⟨(-3), (v_29, fa_30), rfl, ⟨hVv_29, hAv_29, hRv_29, ⟨by have rc : ((-3) : Int32).toInt = -3 := (by decide +kernel); (first | exact Or.inr (Or.inl ⟨by omega, by omega, by omega⟩) | (unfold aOf; omega)), (Or.inl ⟨by decide, hs1_31⟩)⟩⟩, ⟨by rw [ht]; exact hP, va_K.moved hW.alike hK, hD⟩⟩, hS.F ht⟩) hS.2.2 dX11_off_35
    · have dc_17 := c_eq (a := r_16.toInt) (b := 0) rfl (by decide +kernel) c_17
      have hz_34 := isI_0 (w_15.symm.trans c_17)
      have kc_35 : (10 : Int32).toInt = 10 := by decide
      refine lv_aload_n hx hb dX11_off_15 rfl (lv_at hl 0 rfl) ?_
      refine lv_iconst (v := (-1)) hx hb dX11_off_16 (by decide +kernel) ?_
      have hFc := va_free (wc := (mW g0 pq cp v fa)) hD hS hA (List.range 48) rfl
      refine va_calli (va_runV (As := [.int (-1)]) (rest := []) ⟨hx, hb, hml, hown, hts⟩ (c_X11_refuse_f l dC dI H.size g0 pq cp v fa (-1) (by unfold vp_in; decide)) (cwV 1 hts gX11_off_X11_refuse rfl rfl rfl (by decide +kernel) ⟨(Nat.le_of_ble_eq_true rfl), (Nat.le_of_ble_eq_true rfl)⟩) (pr_V (r := (RX11, TX11, 63)) hP hK hD 0 11 rfl rfl) rfl rfl hl.1 rfl (lv_room (Nat.le_of_ble_eq_true rfl)) dX11_off_17 ⟨(Nat.le_of_ble_eq_true rfl), (Nat.le_of_ble_eq_true rfl)⟩) hS (fun q _ h => hFc q h) hFc (fun r_37 u t H locs ht hvm w_36 hB hz1 hk1 hS => ?_)
      obtain ⟨v_38, fa_39⟩ := u
      obtain ⟨hP1, hK1, hD1⟩ := hB
      rw [ht] at hP1
      have hP : va_P (dC, dI) vwCl (mW g0 pq cp v_38 fa_39) H := hP1
      have hD : va_D A (mW g0 pq cp v_38 fa_39) := hD1.weaken (fun _ _ _ h => hFc _ h)
      clear hP1 hK1 hD1 hk1 hz1 hvm ht hFc
      obtain ⟨rfl, hs1_40⟩ := w_36
      have hVv_38 : mV v_38 := sm0_V (sm1_0 hs1_40) gV
      have hAv_38 : mA fa_39 := sm0_A (sm1_0 hs1_40) gA
      have g_41 : (v_38 38).toInt = (v 38).toInt := congrArg Int32.toInt (congrFun hs1_40.1 38)
      have g_42 : (v_38 43).toInt = (v 43).toInt := congrArg Int32.toInt (congrFun hs1_40.1 43)
      have hRv_38 : mX [0, 26] v fa v_38 fa_39 := mX.st mX.rf (mX.s0 (sm1_0 hs1_40)) (by decide +kernel)
      exact W.iret (v := (-1)) hx hb hr (fun t ht hW => ⟨⟨(-1), (v_38, fa_39), rfl, ⟨hVv_38, hAv_38, hRv_38, ⟨by have rc : ((-1) : Int32).toInt = -1 := (by decide +kernel); (first | exact Or.inl ⟨by omega, by omega⟩ | (unfold aOf; omega)), (Or.inl ⟨by decide, hs1_40⟩)⟩⟩, ⟨by rw [ht]; exact hP, va_K.moved hW.alike hK, hD⟩⟩, hS.F ht⟩) hS.2.2 dX11_off_20
