

/-- as refused, but for what readers use for themselves -/
def sm2 (v : Nat → Int32) (fa : Nat → Nat → Int32) (u : (Nat → Int32) × (Nat → Nat → Int32)) (co : Int32) : Prop := (∀ i, scI i = false → u.1 i = v i) ∧ (∀ k, scA k = false → k ≠ 0 → u.2 k = fa k) ∧ u.2 0 = upd (fa 0) (-co).toNatClampNeg (fa 0 (-co).toNatClampNeg + 1)
theorem sm2_1 {v : Nat → Int32} {fa : Nat → Nat → Int32} {u : (Nat → Int32) × (Nat → Nat → Int32)} {co : Int32} (h : sm1 v fa u co) : sm2 v fa u co := ⟨fun i _ => by rw [h.1], fun k _ q => by rw [h.2]; exact if_neg q, by rw [h.2]; exact if_pos rfl⟩
theorem sm2_s {v z : Nat → Int32} {fa fz : Nat → Nat → Int32} {u : (Nat → Int32) × (Nat → Nat → Int32)} {co : Int32} (g : scr v fa z fz) (h : sm1 z fz u co) : sm2 v fa u co := by
  obtain ⟨h1, h2, h3⟩ := sm2_1 h
  refine ⟨fun i q => (h1 i q).trans (g.1 i q), fun k q n => (h2 k q n).trans (g.2 k q), ?_⟩
  rw [h3, g.2 0 rfl]
def rO2 (v : Nat → Int32) (fa : Nat → Nat → Int32) (u : (Nat → Int32) × (Nat → Nat → Int32)) (r : Int32) (P : Prop) : Prop := (r.toInt < 0 ∧ sm2 v fa u r) ∨ (0 ≤ r.toInt ∧ u.2 0 = fa 0 ∧ P)
/-- a man's years -/
def yrs (v : Nat → Int32) (fa : Nat → Nat → Int32) (m : Nat) : Int32 := (v 38 - fa 4 m) / 365
def ltS (w k y : Int32) : Nat → Int32 := fun c => if c = 119 then w else if c = 114 then k else if c = 97 then y else 0
theorem eqL_sg {f f0 : Nat → Int32} {w k y : Int32} (hz : ∀ j, j < 128 → f0 j = 0) (e : f = upd (upd (upd f0 119 w) 114 k) 97 y) : eqL f (ltS w k y) := by
  subst e
  have key : ∀ j, j < 128 → j ≠ 119 → j ≠ 114 → j ≠ 97 → upd (upd (upd f0 119 w) 114 k) 97 y j = 0 := fun j h h1 h2 h3 => (if_neg h3).trans ((if_neg h2).trans ((if_neg h1).trans (hz j h)))
  exact ⟨rfl, rfl, rfl, key 100 (by decide +kernel) (by decide +kernel) (by decide +kernel) (by decide +kernel), key 110 (by decide +kernel) (by decide +kernel) (by decide +kernel) (by decide +kernel), key 115 (by decide +kernel) (by decide +kernel) (by decide +kernel) (by decide +kernel), key 108 (by decide +kernel) (by decide +kernel) (by decide +kernel) (by decide +kernel), key 120 (by decide +kernel) (by decide +kernel) (by decide +kernel) (by decide +kernel)⟩
/-- an agreement more -/
def sgN (v : Nat → Int32) (fa : Nat → Nat → Int32) (m x w k p : Int32) (u : (Nat → Int32) × (Nat → Nat → Int32)) : Prop := (u.1 43).toInt = (v 43).toInt + 1 ∧ u.2 20 = upd (fa 20) (v 43).toNatClampNeg m ∧ u.2 21 = upd (fa 21) (v 43).toNatClampNeg x ∧ u.2 22 = upd (fa 22) (v 43).toNatClampNeg w ∧ u.2 23 = upd (fa 23) (v 43).toNatClampNeg k ∧ u.2 24 = upd (fa 24) (v 43).toNatClampNeg p ∧ u.2 25 = upd (fa 25) (v 43).toNatClampNeg (v 38) ∧ u.2 26 = upd (fa 26) (v 43).toNatClampNeg (-1) ∧ u.2 28 = upd (fa 28) (v 43).toNatClampNeg (-9)
noncomputable def myI (v : Nat → Int32) (fa : Nat → Nat → Int32) (m : Int) (C : Prop) (i : Nat) : Int := b01 (C ∧ ∀ j, j < i → ¬ ((fa 20 j).toInt = m ∧ gonI v fa j = 1))
section
variable {v : Nat → Int32} {fa : Nat → Nat → Int32} {m : Int} {C : Prop} {y i i1 : Int32}
theorem my_0 (h : (y.toInt = 1 ∧ C) ∨ (y.toInt = 0 ∧ ¬ C)) (hi : i.toInt = 0) : y.toInt = myI v fa m C i.toNatClampNeg := by
  unfold myI
  rcases h with ⟨h, c⟩ | ⟨h, c⟩
  · rw [h, b01_t ⟨c, al_0 hi⟩]
  · rw [h, b01_f (fun q => c q.1)]
theorem my_1 (h : y.toInt = myI v fa m C i.toNatClampNeg) (hy : ¬ y.toInt = 0) (hn : ¬ ((fa 20 i.toNatClampNeg).toInt = m ∧ gonI v fa i.toNatClampNeg = 1)) (e : i1.toInt = i.toInt + 1) (h0 : 0 ≤ i.toInt) : (1 : Int32).toInt = myI v fa m C i1.toNatClampNeg := by
  unfold myI at *
  have q := b01_1 (p := C ∧ ∀ j, j < i.toNatClampNeg → ¬ ((fa 20 j).toInt = m ∧ gonI v fa j = 1)) (by have := b01_i (C ∧ ∀ j, j < i.toNatClampNeg → ¬ ((fa 20 j).toInt = m ∧ gonI v fa j = 1)); omega)
  exact b1_t ⟨q.1, al_s q.2 hn e h0⟩
theorem my_2 (h : y.toInt = myI v fa m C i.toNatClampNeg) (hy : y.toInt = 0 ∨ ((fa 20 i.toNatClampNeg).toInt = m ∧ gonI v fa i.toNatClampNeg = 1)) (e : i1.toInt = i.toInt + 1) (h0 : 0 ≤ i.toInt) : (0 : Int32).toInt = myI v fa m C i1.toNatClampNeg := by
  unfold myI at *
  refine b1_f (fun q => ?_)
  have n1 : i.toNatClampNeg = i.toInt.toNat := rfl
  have n2 : i1.toNatClampNeg = i1.toInt.toNat := rfl
  rcases hy with hy | hy
  · rw [hy] at h
    exact b01_0 h.symm ⟨q.1, fun j hj => q.2 j (by omega)⟩
  · exact q.2 _ (by omega) hy
theorem my_e (h : y.toInt = myI v fa m C i.toNatClampNeg) (hi : (v 43).toInt ≤ i.toInt) (hj : i.toInt ≤ (v 43).toInt) : (y.toInt = 1 ∧ C ∧ frI v fa m = 1) ∨ (y.toInt = 0 ∧ (¬ C ∨ frI v fa m = 0)) := by
  unfold myI at h
  unfold frI
  rw [show i.toNatClampNeg = (v 43).toNatClampNeg from (show i.toInt.toNat = (v 43).toInt.toNat by omega)] at h
  by_cases c : C
  · by_cases g : ∀ j, j < (v 43).toNatClampNeg → ¬ ((fa 20 j).toInt = m ∧ gonI v fa j = 1)
    · exact Or.inl ⟨by rw [h, b01_t ⟨c, g⟩], c, b01_t g⟩
    · exact Or.inr ⟨by rw [h, b01_f (fun q => g q.2)], Or.inr (b01_f g)⟩
  · exact Or.inr ⟨by rw [h, b01_f (fun q => c q.1)], Or.inl c⟩
end
set_option maxHeartbeats 4000000 in
set_option maxRecDepth 100000 in
theorem c_X11_sign__f (l : Launch) (dC : Nat → ClassId) (dI : Nat → Nat → Nat) (sz : Nat) (g0 : Nat) (pq : Nat → Nat) (cp : Nat → ClassId) (v : Nat → Int32) (fa : Nat → Nat → Int32) (gV : mV v) (gA : mA fa) (x1 : Int32) (x2 : Int32) (x3 : Int32) (x4 : Int32) (x5 : Int32) (hWl : wlA v fa) : Met l yX11_sign_ wsX11_sign_ ({ frames := 21, cells := 0, slots := 0, locals := 486 }) (va_Pc [.ref g0, .int x1, .int x2, .int x3, .int x4, .int x5] (pcW (dC, dI) (mT cp) (mW g0 pq cp v fa) sz)) (va_Qi (fun (r : Int32) (u : (Nat → Int32) × (Nat → Nat → Int32)) => mV u.1 ∧ mA u.2 ∧ mX [0, 20, 21, 22, 23, 24, 25, 26, 28, 43, 45, 47, 48, 49, 50, 51, 52, 53, 54, 55, 56, 57, 58, 59, 60] v fa u.1 u.2 ∧ (aSg x1.toInt (v 39).toInt x2.toInt (v 40).toInt x5.toInt (v 43).toInt x3.toInt x4.toInt (fa 9 x2.toNatClampNeg).toInt (tldI v fa 0 x2.toInt) (tldI v fa 2 x2.toInt) (fa 26 x5.toNatClampNeg).toInt (frI v fa x1.toInt) (wrt v fa 0 (v 38).toInt (ltS x3 x4 (yrs v fa x1.toNatClampNeg))).toInt r.toInt ∧ rO2 v fa u r (sgN v fa x1 x2 x3 x4 x5 u))) (fun u t => va_P (dC, dI) vwCl (mW g0 pq cp u.1 u.2) t.heap ∧ va_K (dC, dI) vwCl (mT cp) t ∧ va_D (va_A (mW g0 pq cp v fa) sz) (mW g0 pq cp u.1 u.2)) (va_A (mW g0 pq cp v fa) sz)) 0 0 (va_A (mW g0 pq cp v fa) sz) := by
  refine Met.ofW (cc := cX11_sign_) (maxL := 8) (ret := (some .int)) (by decide +kernel) rfl ?_
  intro p e s m args below meth c s₁ B hml hv
  obtain ⟨rfl, hsz, hP, hK, hD0⟩ := hv
  have hx := B.exec
  have hb := B.bytes
  have hr := B.returns
  have hts := atoms_spec (ws := wsX11_sign_) B.pre
  have hown : s.vm.findClass RX11 = some m.cls := findClass_of_methodNamed B.named
  have hlocks := B.notSynchronized
  subst hsz
  have hD := hD0.self (sz := s.heap.size)
  generalize hAe : va_A (mW g0 pq cp v fa) s.heap.size = A at hD ⊢
  have hA : ∀ q : Nat, s.heap.size ≤ q → A q := fun q h => by rw [← hAe]; exact Or.inr h
  have hS : va_S A s.heap s.heap [] := va_S.rf
  have hP : va_P (dC, dI) vwCl (mW g0 pq cp v fa) s.heap := hP
  have hl := lv_entry ([.ref g0, .int x1, .int x2, .int x3, .int x4, .int x5]) (n := 8) (Nat.le_of_ble_eq_true rfl)
  rw [lg_entry_eq]
  generalize (lg_sl ([.ref g0, .int x1, .int x2, .int x3, .int x4, .int x5]) ++ List.replicate (8 - (lg_sl ([.ref g0, .int x1, .int x2, .int x3, .int x4, .int x5])).length) Slot.unset).toArray = ls at hl ⊢
  have hl : lv_has ls 8 [(0, .ref g0), (1, .int x1), (2, .int x2), (3, .int x3), (4, .int x4), (5, .int x5)] := hl
  have cut_1 : ∀ (z_5 : Nat → Int32) (fz_6 : Nat → Nat → Int32) (H : Heap) (locs : List Loc) (ls : Array Slot), (-1 ≤ x5.toInt ∧ x5.toInt ≤ 59) → (0 ≤ x1.toInt ∧ x1.toInt ≤ 39) → (0 ≤ x2.toInt ∧ x2.toInt ≤ 19) → (v = z_5 ∧ fa = fz_6) → sgK x1.toInt (v 39).toInt x2.toInt (v 40).toInt x5.toInt (v 43).toInt → mV z_5 → mA fz_6 → mX [0, 20, 21, 22, 23, 24, 25, 26, 28, 43, 45, 47, 48, 49, 50, 51, 52, 53, 54, 55, 56, 57, 58, 59, 60] v fa z_5 fz_6 → va_P (dC, dI) vwCl (mW g0 pq cp z_5 fz_6) H → va_D A (mW g0 pq cp z_5 fz_6) → va_S A s.heap H locs → (z_5 38).toInt = (v 38).toInt → (z_5 39).toInt = (v 39).toInt → (z_5 40).toInt = (v 40).toInt → (z_5 43).toInt = (v 43).toInt → lv_has ls 8 [(0, .ref g0), (1, .int x1), (2, .int x2), (3, .int x3), (4, .int x4), (5, .int x5)] → W p l e (headSpec wsX11_sign_ { frames := 21, cells := 0, slots := 0, locals := 486 }).room s m #[Value.ref g0, Value.int x1, Value.int x2, Value.int x3, Value.int x4, Value.int x5] below meth c H locs 0 0 (MQ below (va_Qi (fun (r : Int32) (u : (Nat → Int32) × (Nat → Nat → Int32)) => mV u.1 ∧ mA u.2 ∧ mX [0, 20, 21, 22, 23, 24, 25, 26, 28, 43, 45, 47, 48, 49, 50, 51, 52, 53, 54, 55, 56, 57, 58, 59, 60] v fa u.1 u.2 ∧ (aSg x1.toInt (v 39).toInt x2.toInt (v 40).toInt x5.toInt (v 43).toInt x3.toInt x4.toInt (fa 9 x2.toNatClampNeg).toInt (tldI v fa 0 x2.toInt) (tldI v fa 2 x2.toInt) (fa 26 x5.toNatClampNeg).toInt (frI v fa x1.toInt) (wrt v fa 0 (v 38).toInt (ltS x3 x4 (yrs v fa x1.toNatClampNeg))).toInt r.toInt ∧ rO2 v fa u r (sgN v fa x1 x2 x3 x4 x5 u))) (fun u t => va_P (dC, dI) vwCl (mW g0 pq cp u.1 u.2) t.heap ∧ va_K (dC, dI) vwCl (mT cp) t ∧ va_D A (mW g0 pq cp u.1 u.2)) A) #[Value.ref g0, Value.int x1, Value.int x2, Value.int x3, Value.int x4, Value.int x5] s 0 0 A) (F0 m 37 ls []) := by
    intro  z_5 fz_6 H locs ls hiv_2 hiv_3 hiv_4 hq0_cut_1 hq1_cut_1 hVz_5 hAz_5 hRz_5 hP hD hS g_7 g_8 g_9 g_10 hl
    obtain ⟨rfl, rfl⟩ := hq0_cut_1
    unfold sgK at hq1_cut_1
    refine lv_iload_n hx hb dX11_sign__37 rfl (lv_at hl 3 rfl) ?_
    refine lv_iconst (v := 1) hx hb dX11_sign__38 (by decide +kernel) ?_
    refine lv_icmp_lt (tgt := 47) hx hb dX11_sign__39 (by decide +kernel) (fun c_11 => ?_) (fun c_11 => ?_)
    · have dc_11 := c_lt (a := x3.toInt) (b := 1) rfl (by decide +kernel) c_11
      refine lv_aload_n hx hb dX11_sign__47 rfl (lv_at hl 0 rfl) ?_
      refine lv_bipush (v := (-4)) hx hb dX11_sign__48 (by decide +kernel) ?_
      have hFc := va_free (wc := (mW g0 pq cp v fa)) hD hS hA (List.range 48) rfl
      refine va_calli (va_runV (As := [.int (-4)]) (rest := []) ⟨hx, hb, hml, hown, hts⟩ (c_X11_refuse_f l dC dI H.size g0 pq cp v fa (-4) (by unfold vp_in; decide)) (cwV 1 hts gX11_sign__X11_refuse rfl rfl rfl (by decide +kernel) ⟨(Nat.le_of_ble_eq_true rfl), (Nat.le_of_ble_eq_true rfl)⟩) (pr_V (r := (RX11, TX11, 63)) hP hK hD 0 11 rfl rfl) rfl rfl hl.1 rfl (lv_room (Nat.le_of_ble_eq_true rfl)) dX11_sign__50 ⟨(Nat.le_of_ble_eq_true rfl), (Nat.le_of_ble_eq_true rfl)⟩) hS (fun q _ h => hFc q h) hFc (fun r_13 u t H locs ht hvm w_12 hB hz1 hk1 hS => ?_)
      obtain ⟨v_14, fa_15⟩ := u
      obtain ⟨hP1, hK1, hD1⟩ := hB
      rw [ht] at hP1
      have hP : va_P (dC, dI) vwCl (mW g0 pq cp v_14 fa_15) H := hP1
      have hD : va_D A (mW g0 pq cp v_14 fa_15) := hD1.weaken (fun _ _ _ h => hFc _ h)
      clear hP1 hK1 hD1 hk1 hz1 hvm ht hFc
      obtain ⟨rfl, hs1_16⟩ := w_12
      have hVv_14 : mV v_14 := sm0_V (sm1_0 hs1_16) hVz_5
      have hAv_14 : mA fa_15 := sm0_A (sm1_0 hs1_16) hAz_5
      have g_17 : (v_14 38).toInt = (v 38).toInt := congrArg Int32.toInt (congrFun hs1_16.1 38)
      have g_18 : (v_14 39).toInt = (v 39).toInt := congrArg Int32.toInt (congrFun hs1_16.1 39)
      have g_19 : (v_14 40).toInt = (v 40).toInt := congrArg Int32.toInt (congrFun hs1_16.1 40)
      have g_20 : (v_14 43).toInt = (v 43).toInt := congrArg Int32.toInt (congrFun hs1_16.1 43)
      have hRv_14 : mX [0, 20, 21, 22, 23, 24, 25, 26, 28, 43, 45, 47, 48, 49, 50, 51, 52, 53, 54, 55, 56, 57, 58, 59, 60] v fa v_14 fa_15 := mX.st hRz_5 (mX.s0 (sm1_0 hs1_16)) (by decide +kernel)
      exact W.iret (v := (-4)) hx hb hr (fun t ht hW => ⟨⟨(-4), (v_14, fa_15), rfl, ⟨hVv_14, hAv_14, hRv_14, ⟨by have rc : ((-4) : Int32).toInt = -4 := (by decide +kernel); exact Or.inr (Or.inl ⟨(by first | assumption | (unfold sgK; omega)), by omega, rc⟩), Or.inl ⟨by decide, sm2_1 hs1_16⟩⟩⟩, ⟨by rw [ht]; exact hP, va_K.moved hW.alike hK, hD⟩⟩, hS.F ht⟩) hS.2.2 dX11_sign__53
    · have dc_11 := c_nlt (a := x3.toInt) (b := 1) rfl (by decide +kernel) c_11
      refine lv_iload hx hb dX11_sign__42 (lv_at hl 4 rfl) ?_
      refine lv_if_ge (tgt := 54) hx hb dX11_sign__44 (by decide +kernel) (fun c_21 => ?_) (fun c_21 => ?_)
      · have dc_21 := c_le (a := 0) (b := x4.toInt) (by decide +kernel) rfl c_21
        refine lv_iload_n hx hb dX11_sign__54 rfl (lv_at hl 3 rfl) ?_
        refine lv_sipush (v := 9999) hx hb dX11_sign__55 (by decide +kernel) ?_
        refine lv_icmp_gt (tgt := 76) hx hb dX11_sign__58 (by decide +kernel) (fun c_22 => ?_) (fun c_22 => ?_)
        · have dc_22 := c_lt (a := 9999) (b := x3.toInt) (by decide +kernel) rfl c_22
          refine lv_aload_n hx hb dX11_sign__76 rfl (lv_at hl 0 rfl) ?_
          refine lv_bipush (v := (-6)) hx hb dX11_sign__77 (by decide +kernel) ?_
          have hFc := va_free (wc := (mW g0 pq cp v fa)) hD hS hA (List.range 48) rfl
          refine va_calli (va_runV (As := [.int (-6)]) (rest := []) ⟨hx, hb, hml, hown, hts⟩ (c_X11_refuse_f l dC dI H.size g0 pq cp v fa (-6) (by unfold vp_in; decide)) (cwV 1 hts gX11_sign__X11_refuse rfl rfl rfl (by decide +kernel) ⟨(Nat.le_of_ble_eq_true rfl), (Nat.le_of_ble_eq_true rfl)⟩) (pr_V (r := (RX11, TX11, 63)) hP hK hD 0 11 rfl rfl) rfl rfl hl.1 rfl (lv_room (Nat.le_of_ble_eq_true rfl)) dX11_sign__79 ⟨(Nat.le_of_ble_eq_true rfl), (Nat.le_of_ble_eq_true rfl)⟩) hS (fun q _ h => hFc q h) hFc (fun r_24 u t H locs ht hvm w_23 hB hz1 hk1 hS => ?_)
          obtain ⟨v_25, fa_26⟩ := u
          obtain ⟨hP1, hK1, hD1⟩ := hB
          rw [ht] at hP1
          have hP : va_P (dC, dI) vwCl (mW g0 pq cp v_25 fa_26) H := hP1
          have hD : va_D A (mW g0 pq cp v_25 fa_26) := hD1.weaken (fun _ _ _ h => hFc _ h)
          clear hP1 hK1 hD1 hk1 hz1 hvm ht hFc
          obtain ⟨rfl, hs1_27⟩ := w_23
          have hVv_25 : mV v_25 := sm0_V (sm1_0 hs1_27) hVz_5
          have hAv_25 : mA fa_26 := sm0_A (sm1_0 hs1_27) hAz_5
          have g_28 : (v_25 38).toInt = (v 38).toInt := congrArg Int32.toInt (congrFun hs1_27.1 38)
          have g_29 : (v_25 39).toInt = (v 39).toInt := congrArg Int32.toInt (congrFun hs1_27.1 39)
          have g_30 : (v_25 40).toInt = (v 40).toInt := congrArg Int32.toInt (congrFun hs1_27.1 40)
          have g_31 : (v_25 43).toInt = (v 43).toInt := congrArg Int32.toInt (congrFun hs1_27.1 43)
          have hRv_25 : mX [0, 20, 21, 22, 23, 24, 25, 26, 28, 43, 45, 47, 48, 49, 50, 51, 52, 53, 54, 55, 56, 57, 58, 59, 60] v fa v_25 fa_26 := mX.st hRz_5 (mX.s0 (sm1_0 hs1_27)) (by decide +kernel)
          exact W.iret (v := (-6)) hx hb hr (fun t ht hW => ⟨⟨(-6), (v_25, fa_26), rfl, ⟨hVv_25, hAv_25, hRv_25, ⟨by have rc : ((-6) : Int32).toInt = -6 := (by decide +kernel); exact Or.inr (Or.inr (Or.inl ⟨(by first | assumption | (unfold sgK; omega)), by omega, by omega, rc⟩)), Or.inl ⟨by decide, sm2_1 hs1_27⟩⟩⟩, ⟨by rw [ht]; exact hP, va_K.moved hW.alike hK, hD⟩⟩, hS.F ht⟩) hS.2.2 dX11_sign__82
        · have dc_22 := c_nlt (a := 9999) (b := x3.toInt) (by decide +kernel) rfl c_22
          refine lv_iload hx hb dX11_sign__61 (lv_at hl 4 rfl) ?_
          refine lv_iconst (v := 3) hx hb dX11_sign__63 (by decide +kernel) ?_
          refine lv_icmp_gt (tgt := 76) hx hb dX11_sign__64 (by decide +kernel) (fun c_32 => ?_) (fun c_32 => ?_)
          · have dc_32 := c_lt (a := 3) (b := x4.toInt) (by decide +kernel) rfl c_32
            refine lv_aload_n hx hb dX11_sign__76 rfl (lv_at hl 0 rfl) ?_
            refine lv_bipush (v := (-6)) hx hb dX11_sign__77 (by decide +kernel) ?_
            have hFc := va_free (wc := (mW g0 pq cp v fa)) hD hS hA (List.range 48) rfl
            refine va_calli (va_runV (As := [.int (-6)]) (rest := []) ⟨hx, hb, hml, hown, hts⟩ (c_X11_refuse_f l dC dI H.size g0 pq cp v fa (-6) (by unfold vp_in; decide)) (cwV 1 hts gX11_sign__X11_refuse rfl rfl rfl (by decide +kernel) ⟨(Nat.le_of_ble_eq_true rfl), (Nat.le_of_ble_eq_true rfl)⟩) (pr_V (r := (RX11, TX11, 63)) hP hK hD 0 11 rfl rfl) rfl rfl hl.1 rfl (lv_room (Nat.le_of_ble_eq_true rfl)) dX11_sign__79 ⟨(Nat.le_of_ble_eq_true rfl), (Nat.le_of_ble_eq_true rfl)⟩) hS (fun q _ h => hFc q h) hFc (fun r_34 u t H locs ht hvm w_33 hB hz1 hk1 hS => ?_)
            obtain ⟨v_35, fa_36⟩ := u
            obtain ⟨hP1, hK1, hD1⟩ := hB
            rw [ht] at hP1
            have hP : va_P (dC, dI) vwCl (mW g0 pq cp v_35 fa_36) H := hP1
            have hD : va_D A (mW g0 pq cp v_35 fa_36) := hD1.weaken (fun _ _ _ h => hFc _ h)
            clear hP1 hK1 hD1 hk1 hz1 hvm ht hFc
            obtain ⟨rfl, hs1_37⟩ := w_33
            have hVv_35 : mV v_35 := sm0_V (sm1_0 hs1_37) hVz_5
            have hAv_35 : mA fa_36 := sm0_A (sm1_0 hs1_37) hAz_5
            have g_38 : (v_35 38).toInt = (v 38).toInt := congrArg Int32.toInt (congrFun hs1_37.1 38)
            have g_39 : (v_35 39).toInt = (v 39).toInt := congrArg Int32.toInt (congrFun hs1_37.1 39)
            have g_40 : (v_35 40).toInt = (v 40).toInt := congrArg Int32.toInt (congrFun hs1_37.1 40)
            have g_41 : (v_35 43).toInt = (v 43).toInt := congrArg Int32.toInt (congrFun hs1_37.1 43)
            have hRv_35 : mX [0, 20, 21, 22, 23, 24, 25, 26, 28, 43, 45, 47, 48, 49, 50, 51, 52, 53, 54, 55, 56, 57, 58, 59, 60] v fa v_35 fa_36 := mX.st hRz_5 (mX.s0 (sm1_0 hs1_37)) (by decide +kernel)
            exact W.iret (v := (-6)) hx hb hr (fun t ht hW => ⟨⟨(-6), (v_35, fa_36), rfl, ⟨hVv_35, hAv_35, hRv_35, ⟨by have rc : ((-6) : Int32).toInt = -6 := (by decide +kernel); exact Or.inr (Or.inr (Or.inl ⟨(by first | assumption | (unfold sgK; omega)), by omega, by omega, rc⟩)), Or.inl ⟨by decide, sm2_1 hs1_37⟩⟩⟩, ⟨by rw [ht]; exact hP, va_K.moved hW.alike hK, hD⟩⟩, hS.F ht⟩) hS.2.2 dX11_sign__82
          · have dc_32 := c_nlt (a := 3) (b := x4.toInt) (by decide +kernel) rfl c_32
            refine lv_aload_n hx hb dX11_sign__67 rfl (lv_at hl 0 rfl) ?_
            refine va_get (D := (dC, dI)) (ci := 11) (v := .int (v 43)) (C := RX11) (T := TX11) (N := 63) hx hb hts in_wsX11_sign__X11 hown hK hP 0 rfl rfl 43 (by decide +kernel) (hts (.fieldLink RX11 168 "ShipOfficeModel" "agreements" "I") iw_X11_sign__1) (fun _ h9 => h9) rfl dX11_sign__68 ?_
            refine lv_topi (fun x_42 ex_42 => ?_)
            have hx_42 : 0 ≤ x_42.toInt ∧ x_42.toInt ≤ 60 := iv_of ex_42 (hVz_5 43)
            have gx_42 : x_42.toInt = (v 43).toInt := iv_to ex_42
            clear ex_42
            refine lv_bipush (v := 60) hx hb dX11_sign__71 (by decide +kernel) ?_
            refine lv_icmp_ne (tgt := 83) hx hb dX11_sign__73 (by decide +kernel) (fun c_43 => ?_) (fun c_43 => ?_)
            · have dc_43 := c_ne (a := x_42.toInt) (b := 60) rfl (by decide +kernel) c_43
              have cut_44 : ∀ (y_45 : Int32) (z_46 : Nat → Int32) (fz_47 : Nat → Nat → Int32) (H : Heap) (locs : List Loc) (ls : Array Slot), (0 ≤ y_45.toInt ∧ y_45.toInt ≤ 1) → (v = z_46 ∧ fa = fz_47) → ((y_45.toInt = 1 ∧ ((fa 9 x2.toNatClampNeg).toInt < 0 ∧ tldI v fa 0 x2.toInt = 0 ∧ tldI v fa 2 x2.toInt = 0 ∧ (x5.toInt < 0 ∨ 0 ≤ (fa 26 x5.toNatClampNeg).toInt))) ∨ (y_45.toInt = 0 ∧ ¬ ((fa 9 x2.toNatClampNeg).toInt < 0 ∧ tldI v fa 0 x2.toInt = 0 ∧ tldI v fa 2 x2.toInt = 0 ∧ (x5.toInt < 0 ∨ 0 ≤ (fa 26 x5.toNatClampNeg).toInt)))) → mV z_46 → mA fz_47 → mX [0, 20, 21, 22, 23, 24, 25, 26, 28, 43, 45, 47, 48, 49, 50, 51, 52, 53, 54, 55, 56, 57, 58, 59, 60] v fa z_46 fz_47 → va_P (dC, dI) vwCl (mW g0 pq cp z_46 fz_47) H → va_D A (mW g0 pq cp z_46 fz_47) → va_S A s.heap H locs → (z_46 38).toInt = (v 38).toInt → (z_46 39).toInt = (v 39).toInt → (z_46 40).toInt = (v 40).toInt → (z_46 43).toInt = (v 43).toInt → lv_has ls 8 [(6, .int y_45), (0, .ref g0), (1, .int x1), (2, .int x2), (3, .int x3), (4, .int x4), (5, .int x5)] → W p l e (headSpec wsX11_sign_ { frames := 21, cells := 0, slots := 0, locals := 486 }).room s m #[Value.ref g0, Value.int x1, Value.int x2, Value.int x3, Value.int x4, Value.int x5] below meth c H locs 0 0 (MQ below (va_Qi (fun (r : Int32) (u : (Nat → Int32) × (Nat → Nat → Int32)) => mV u.1 ∧ mA u.2 ∧ mX [0, 20, 21, 22, 23, 24, 25, 26, 28, 43, 45, 47, 48, 49, 50, 51, 52, 53, 54, 55, 56, 57, 58, 59, 60] v fa u.1 u.2 ∧ (aSg x1.toInt (v 39).toInt x2.toInt (v 40).toInt x5.toInt (v 43).toInt x3.toInt x4.toInt (fa 9 x2.toNatClampNeg).toInt (tldI v fa 0 x2.toInt) (tldI v fa 2 x2.toInt) (fa 26 x5.toNatClampNeg).toInt (frI v fa x1.toInt) (wrt v fa 0 (v 38).toInt (ltS x3 x4 (yrs v fa x1.toNatClampNeg))).toInt r.toInt ∧ rO2 v fa u r (sgN v fa x1 x2 x3 x4 x5 u))) (fun u t => va_P (dC, dI) vwCl (mW g0 pq cp u.1 u.2) t.heap ∧ va_K (dC, dI) vwCl (mT cp) t ∧ va_D A (mW g0 pq cp u.1 u.2)) A) #[Value.ref g0, Value.int x1, Value.int x2, Value.int x3, Value.int x4, Value.int x5] s 0 0 A) (F0 m 132 ls []) := by
                intro y_45 z_46 fz_47 H locs ls hy_45 hq0_cut_44 hq1_cut_44 hVz_46 hAz_46 hRz_46 hP hD hS g_48 g_49 g_50 g_51 hl
                obtain ⟨rfl, rfl⟩ := hq0_cut_44
                refine lv_iconst (v := 0) hx hb dX11_sign__132 (by decide +kernel) ?_
                refine lv_istore (lv' := [(7, .int 0), (6, .int y_45), (0, .ref g0), (1, .int x1), (2, .int x2), (3, .int x3), (4, .int x4), (5, .int x5)]) hx hb dX11_sign__133 hl (by decide +kernel) rfl (fun ls hl => ?_)
                have cut_52 : ∀ (n : Nat) (y_53 : Int32) (y_54 : Int32) (z_55 : Nat → Int32) (fz_56 : Nat → Nat → Int32) (H : Heap) (locs : List Loc) (ls : Array Slot), 60 - y_54.toInt ≤ (n : Int) → (0 ≤ y_53.toInt ∧ y_53.toInt ≤ 1) → (0 ≤ y_54.toInt ∧ y_54.toInt ≤ 60) → (v = z_55 ∧ fa = fz_56) → (y_53.toInt = myI v fa x1.toInt ((fa 9 x2.toNatClampNeg).toInt < 0 ∧ tldI v fa 0 x2.toInt = 0 ∧ tldI v fa 2 x2.toInt = 0 ∧ (x5.toInt < 0 ∨ 0 ≤ (fa 26 x5.toNatClampNeg).toInt)) y_54.toNatClampNeg) → y_54.toInt ≤ (v 43).toInt → mV z_55 → mA fz_56 → mX [0, 20, 21, 22, 23, 24, 25, 26, 28, 43, 45, 47, 48, 49, 50, 51, 52, 53, 54, 55, 56, 57, 58, 59, 60] v fa z_55 fz_56 → va_P (dC, dI) vwCl (mW g0 pq cp z_55 fz_56) H → va_D A (mW g0 pq cp z_55 fz_56) → va_S A s.heap H locs → (z_55 38).toInt = (v 38).toInt → (z_55 39).toInt = (v 39).toInt → (z_55 40).toInt = (v 40).toInt → (z_55 43).toInt = (v 43).toInt → lv_has ls 8 [(6, .int y_53), (7, .int y_54), (0, .ref g0), (1, .int x1), (2, .int x2), (3, .int x3), (4, .int x4), (5, .int x5)] → W p l e (headSpec wsX11_sign_ { frames := 21, cells := 0, slots := 0, locals := 486 }).room s m #[Value.ref g0, Value.int x1, Value.int x2, Value.int x3, Value.int x4, Value.int x5] below meth c H locs 0 0 (MQ below (va_Qi (fun (r : Int32) (u : (Nat → Int32) × (Nat → Nat → Int32)) => mV u.1 ∧ mA u.2 ∧ mX [0, 20, 21, 22, 23, 24, 25, 26, 28, 43, 45, 47, 48, 49, 50, 51, 52, 53, 54, 55, 56, 57, 58, 59, 60] v fa u.1 u.2 ∧ (aSg x1.toInt (v 39).toInt x2.toInt (v 40).toInt x5.toInt (v 43).toInt x3.toInt x4.toInt (fa 9 x2.toNatClampNeg).toInt (tldI v fa 0 x2.toInt) (tldI v fa 2 x2.toInt) (fa 26 x5.toNatClampNeg).toInt (frI v fa x1.toInt) (wrt v fa 0 (v 38).toInt (ltS x3 x4 (yrs v fa x1.toNatClampNeg))).toInt r.toInt ∧ rO2 v fa u r (sgN v fa x1 x2 x3 x4 x5 u))) (fun u t => va_P (dC, dI) vwCl (mW g0 pq cp u.1 u.2) t.heap ∧ va_K (dC, dI) vwCl (mT cp) t ∧ va_D A (mW g0 pq cp u.1 u.2)) A) #[Value.ref g0, Value.int x1, Value.int x2, Value.int x3, Value.int x4, Value.int x5] s 0 0 A) (F0 m 135 ls []) := by
                  intro n
                  induction n using Nat.strongRecOn with
                  | ind n ih =>
                    intro y_53 y_54 z_55 fz_56 H locs ls hm hy_53 hy_54 hq0_cut_52 hq1_cut_52 hq2_cut_52 hVz_55 hAz_55 hRz_55 hP hD hS g_57 g_58 g_59 g_60 hl
                    obtain ⟨rfl, rfl⟩ := hq0_cut_52
                    refine lv_iload hx hb dX11_sign__135 (lv_at hl 1 rfl) ?_
                    refine lv_aload_n hx hb dX11_sign__137 rfl (lv_at hl 2 rfl) ?_
                    refine va_get (D := (dC, dI)) (ci := 11) (v := .int (v 43)) (C := RX11) (T := TX11) (N := 63) hx hb hts in_wsX11_sign__X11 hown hK hP 0 rfl rfl 43 (by decide +kernel) (hts (.fieldLink RX11 168 "ShipOfficeModel" "agreements" "I") iw_X11_sign__1) (fun _ h9 => h9) rfl dX11_sign__138 ?_
                    refine lv_topi (fun x_61 ex_61 => ?_)
                    have hx_61 : 0 ≤ x_61.toInt ∧ x_61.toInt ≤ 60 := iv_of ex_61 (hVz_55 43)
                    have gx_61 : x_61.toInt = (v 43).toInt := iv_to ex_61
                    clear ex_61
                    refine lv_icmp_ge (tgt := 182) hx hb dX11_sign__141 (by decide +kernel) (fun c_62 => ?_) (fun c_62 => ?_)
                    · have dc_62 := c_le (a := x_61.toInt) (b := y_54.toInt) rfl rfl c_62
                      have hmy := my_e hq1_cut_52 (by omega) (by omega)
                      refine lv_iload hx hb dX11_sign__182 (lv_at hl 0 rfl) ?_
                      refine lv_if_ne (tgt := 194) hx hb dX11_sign__184 (by decide +kernel) (fun c_63 => ?_) (fun c_63 => ?_)
                      · have dc_63 := c_ne (a := y_53.toInt) (b := 0) rfl (by decide +kernel) c_63
                        refine lv_aload_n hx hb dX11_sign__194 rfl (lv_at hl 2 rfl) ?_
                        have hFc := va_free (wc := (mW g0 pq cp v fa)) hD hS hA (List.range 48) rfl
                        refine va_callv (va_runV (As := []) (rest := []) ⟨hx, hb, hml, hown, hts⟩ (c_X11_bare_f l dC dI H.size g0 pq cp v fa hVz_55 hAz_55) (cwV 0 hts gX11_sign__X11_bare rfl rfl rfl (by decide +kernel) ⟨(Nat.le_of_ble_eq_true rfl), (Nat.le_of_ble_eq_true rfl)⟩) (pr_V (r := (RX11, TX11, 63)) hP hK hD 0 11 rfl rfl) rfl rfl hl.1 rfl (lv_room (Nat.le_of_ble_eq_true rfl)) dX11_sign__195 ⟨(Nat.le_of_ble_eq_true rfl), (Nat.le_of_ble_eq_true rfl)⟩) hS (fun q _ h => hFc q h) hFc (fun u t H locs ht hvm w_64 hB hz1 hk1 hS => ?_)
                        obtain ⟨v_66, fa_67⟩ := u
                        obtain ⟨hP1, hK1, hD1⟩ := hB
                        rw [ht] at hP1
                        have hP : va_P (dC, dI) vwCl (mW g0 pq cp v_66 fa_67) H := hP1
                        have hD : va_D A (mW g0 pq cp v_66 fa_67) := hD1.weaken (fun _ _ _ h => hFc _ h)
                        clear hP1 hK1 hD1 hk1 hz1 hvm ht hFc
                        obtain ⟨hV_68, hA_69, hR_70, hx_71⟩ := w_64
                        dsimp only at hV_68 hA_69 hR_70 hx_71
                        have g_72 : (v_66 38).toInt = (v 38).toInt := congrArg Int32.toInt (hR_70.1 38 rfl)
                        have g_73 : (v_66 39).toInt = (v 39).toInt := congrArg Int32.toInt (hR_70.1 39 rfl)
                        have g_74 : (v_66 40).toInt = (v 40).toInt := congrArg Int32.toInt (hR_70.1 40 rfl)
                        have g_75 : (v_66 43).toInt = (v 43).toInt := congrArg Int32.toInt (hR_70.1 43 rfl)
                        have R_76 : mX [0, 20, 21, 22, 23, 24, 25, 26, 28, 43, 45, 47, 48, 49, 50, 51, 52, 53, 54, 55, 56, 57, 58, 59, 60] v fa v_66 fa_67 := mX.st hRz_55 (mX.scr hR_70) (by decide +kernel)
                        have sc_77 := scr.tr scr.rf hR_70
                        have q0_78 : fa_67 0 = fa 0 := (hR_70.2 0 rfl).trans rfl
                        refine lv_aload_n hx hb dX11_sign__198 rfl (lv_at hl 2 rfl) ?_
                        refine va_get (D := (dC, dI)) (ci := 11) (v := .ref (pq 45)) (C := RX11) (T := TX11) (N := 63) hx hb hts in_wsX11_sign__X11 hown hK hP 0 rfl rfl 45 (by decide +kernel) (hts (.fieldLink RX11 128 "ShipOfficeModel" "letters" "[I") iw_X11_sign__2) (fun _ h9 => h9) rfl dX11_sign__199 ?_
                        refine lv_bipush (v := 119) hx hb dX11_sign__202 (by decide +kernel) ?_
                        refine lv_iload_n hx hb dX11_sign__204 rfl (lv_at hl 5 rfl) ?_
                        refine va_iast hx hb hK hP hD hS 40 39 rfl rfl (by unfold vp_in; decide) dX11_sign__205 (fun H locs hP hD hS => ?_)
                        have hP : va_P (dC, dI) vwCl (mW g0 pq cp v_66 (upF fa_67 45 (119 : Int32).toNatClampNeg x3)) H := hP
                        have hD : va_D A (mW g0 pq cp v_66 (upF fa_67 45 (119 : Int32).toNatClampNeg x3)) := hD
                        obtain ⟨fz_79, efz_79⟩ : ∃ zq, zq = (upF fa_67 45 (119 : Int32).toNatClampNeg x3) := ⟨_, rfl⟩
                        rw [← efz_79] at hP hD
                        have hAfz_79 : mA fz_79 := by rw [efz_79]; exact mA_upF (lo := -2147483648) (hi := 2147483647) hA_69 rfl rfl (iv_all _)
                        have hRfz_79 : mX [0, 20, 21, 22, 23, 24, 25, 26, 28, 43, 45, 47, 48, 49, 50, 51, 52, 53, 54, 55, 56, 57, 58, 59, 60] v fa v_66 fz_79 := by rw [efz_79]; exact mX.uF R_76 (by decide +kernel)
                        have sc_80 : scr v fa v_66 fz_79 := by rw [efz_79]; exact scr.uF sc_77 rfl
                        have q0_81 : fz_79 0 = fa 0 := by rw [efz_79]; exact (if_neg (by decide +kernel)).trans q0_78
                        refine lv_aload_n hx hb dX11_sign__206 rfl (lv_at hl 2 rfl) ?_
                        refine va_get (D := (dC, dI)) (ci := 11) (v := .ref (pq 45)) (C := RX11) (T := TX11) (N := 63) hx hb hts in_wsX11_sign__X11 hown hK hP 0 rfl rfl 45 (by decide +kernel) (hts (.fieldLink RX11 128 "ShipOfficeModel" "letters" "[I") iw_X11_sign__2) (fun _ h9 => h9) rfl dX11_sign__207 ?_
                        refine lv_bipush (v := 114) hx hb dX11_sign__210 (by decide +kernel) ?_
                        refine lv_iload hx hb dX11_sign__212 (lv_at hl 6 rfl) ?_
                        refine va_iast hx hb hK hP hD hS 40 39 rfl rfl (by unfold vp_in; decide) dX11_sign__214 (fun H locs hP hD hS => ?_)
                        have hP : va_P (dC, dI) vwCl (mW g0 pq cp v_66 (upF fz_79 45 (114 : Int32).toNatClampNeg x4)) H := hP
                        have hD : va_D A (mW g0 pq cp v_66 (upF fz_79 45 (114 : Int32).toNatClampNeg x4)) := hD
                        obtain ⟨fz_82, efz_82⟩ : ∃ zq, zq = (upF fz_79 45 (114 : Int32).toNatClampNeg x4) := ⟨_, rfl⟩
                        rw [← efz_82] at hP hD
                        have hAfz_82 : mA fz_82 := by rw [efz_82]; exact mA_upF (lo := -2147483648) (hi := 2147483647) hAfz_79 rfl rfl (iv_all _)
                        have hRfz_82 : mX [0, 20, 21, 22, 23, 24, 25, 26, 28, 43, 45, 47, 48, 49, 50, 51, 52, 53, 54, 55, 56, 57, 58, 59, 60] v fa v_66 fz_82 := by rw [efz_82]; exact mX.uF hRfz_79 (by decide +kernel)
                        have sc_83 : scr v fa v_66 fz_82 := by rw [efz_82]; exact scr.uF sc_80 rfl
                        have q0_84 : fz_82 0 = fa 0 := by rw [efz_82]; exact (if_neg (by decide +kernel)).trans q0_81
                        refine lv_aload_n hx hb dX11_sign__215 rfl (lv_at hl 2 rfl) ?_
                        refine va_get (D := (dC, dI)) (ci := 11) (v := .ref (pq 45)) (C := RX11) (T := TX11) (N := 63) hx hb hts in_wsX11_sign__X11 hown hK hP 0 rfl rfl 45 (by decide +kernel) (hts (.fieldLink RX11 128 "ShipOfficeModel" "letters" "[I") iw_X11_sign__2) (fun _ h9 => h9) rfl dX11_sign__216 ?_
                        refine lv_bipush (v := 97) hx hb dX11_sign__219 (by decide +kernel) ?_
                        refine lv_aload_n hx hb dX11_sign__221 rfl (lv_at hl 2 rfl) ?_
                        refine va_get (D := (dC, dI)) (ci := 11) (v := .int (v_66 38)) (C := RX11) (T := TX11) (N := 63) hx hb hts in_wsX11_sign__X11 hown hK hP 0 rfl rfl 38 (by decide +kernel) (hts (.fieldLink RX11 171 "ShipOfficeModel" "now" "I") iw_X11_sign__3) (fun _ h9 => h9) rfl dX11_sign__222 ?_
                        refine lv_topi (fun x_85 ex_85 => ?_)
                        have hx_85 : 0 ≤ x_85.toInt ∧ x_85.toInt ≤ 3000 := iv_of ex_85 (hV_68 38)
                        have gx_85 : x_85.toInt = (v_66 38).toInt := iv_to ex_85
                        clear ex_85
                        refine lv_aload_n hx hb dX11_sign__225 rfl (lv_at hl 2 rfl) ?_
                        refine va_get (D := (dC, dI)) (ci := 11) (v := .ref (pq 4)) (C := RX11) (T := TX11) (N := 63) hx hb hts in_wsX11_sign__X11 hown hK hP 0 rfl rfl 4 (by decide +kernel) (hts (.fieldLink RX11 22 "ShipOfficeModel" "born" "[I") iw_X11_sign__4) (fun _ h9 => h9) rfl dX11_sign__226 ?_
                        refine lv_iload_n hx hb dX11_sign__229 rfl (lv_at hl 3 rfl) ?_
                        refine va_iald hx hb hK hP 5 4 rfl rfl (vp_in_iff.mpr (by omega)) dX11_sign__230 ?_
                        refine lv_topi (fun x_86 ex_86 => ?_)
                        have gx_86 : x_86.toInt = (fz_82 4 (x1 : Int32).toNatClampNeg).toInt := iv_to ex_86
                        clear ex_86
                        refine lv_isub hx hb dX11_sign__231 ?_
                        refine lv_topi (fun x_87 ex_87 => ?_)
                        refine lv_sipush (v := 365) hx hb dX11_sign__232 (by decide +kernel) ?_
                        refine lv_idiv hx hb dX11_sign__235 (by decide +kernel) ?_
                        refine lv_topi (fun x_88 ex_88 => ?_)
                        refine va_iast hx hb hK hP hD hS 40 39 rfl rfl (by unfold vp_in; decide) dX11_sign__236 (fun H locs hP hD hS => ?_)
                        have hP : va_P (dC, dI) vwCl (mW g0 pq cp v_66 (upF fz_82 45 (97 : Int32).toNatClampNeg x_88)) H := hP
                        have hD : va_D A (mW g0 pq cp v_66 (upF fz_82 45 (97 : Int32).toNatClampNeg x_88)) := hD
                        obtain ⟨fz_89, efz_89⟩ : ∃ zq, zq = (upF fz_82 45 (97 : Int32).toNatClampNeg x_88) := ⟨_, rfl⟩
                        rw [← efz_89] at hP hD
                        have hAfz_89 : mA fz_89 := by rw [efz_89]; exact mA_upF (lo := -2147483648) (hi := 2147483647) hAfz_82 rfl rfl (iv_all _)
                        have hRfz_89 : mX [0, 20, 21, 22, 23, 24, 25, 26, 28, 43, 45, 47, 48, 49, 50, 51, 52, 53, 54, 55, 56, 57, 58, 59, 60] v fa v_66 fz_89 := by rw [efz_89]; exact mX.uF hRfz_82 (by decide +kernel)
                        have g_90 : (fz_89 4 (x1 : Int32).toNatClampNeg).toInt = (fz_82 4 (x1 : Int32).toNatClampNeg).toInt := by rw [efz_89]; exact uF_ne (by decide +kernel)
                        have sc_91 : scr v fa v_66 fz_89 := by rw [efz_89]; exact scr.uF sc_83 rfl
                        have q0_92 : fz_89 0 = fa 0 := by rw [efz_89]; exact (if_neg (by decide +kernel)).trans q0_84
                        refine lv_aload_n hx hb dX11_sign__237 rfl (lv_at hl 2 rfl) ?_
                        refine lv_iconst (v := 0) hx hb dX11_sign__238 (by decide +kernel) ?_
                        refine lv_aload_n hx hb dX11_sign__239 rfl (lv_at hl 2 rfl) ?_
                        refine va_get (D := (dC, dI)) (ci := 11) (v := .int (v_66 38)) (C := RX11) (T := TX11) (N := 63) hx hb hts in_wsX11_sign__X11 hown hK hP 0 rfl rfl 38 (by decide +kernel) (hts (.fieldLink RX11 171 "ShipOfficeModel" "now" "I") iw_X11_sign__3) (fun _ h9 => h9) rfl dX11_sign__240 ?_
                        refine lv_topi (fun x_93 ex_93 => ?_)
                        have hx_93 : 0 ≤ x_93.toInt ∧ x_93.toInt ≤ 3000 := iv_of ex_93 (hV_68 38)
                        have gx_93 : x_93.toInt = (v_66 38).toInt := iv_to ex_93
                        clear ex_93
                        have hFc := va_free (wc := (mW g0 pq cp v_66 fz_89)) hD hS hA (List.range 48) rfl
                        refine va_calli (va_runV (As := [.int 0, .int x_93]) (rest := []) ⟨hx, hb, hml, hown, hts⟩ (c_X11_worth_f l dC dI H.size g0 pq cp v_66 fz_89 hV_68 hAfz_89 0 x_93 (wlA_fr hWl (sc_91.1 42 rfl) (sc_91.2 19 rfl) (sc_91.2 16 rfl))) (cwV 2 hts gX11_sign__X11_worth rfl rfl rfl (by decide +kernel) ⟨(Nat.le_of_ble_eq_true rfl), (Nat.le_of_ble_eq_true rfl)⟩) (pr_V (r := (RX11, TX11, 63)) hP hK hD 0 11 rfl rfl) rfl rfl hl.1 rfl (lv_room (Nat.le_of_ble_eq_true rfl)) dX11_sign__243 ⟨(Nat.le_of_ble_eq_true rfl), (Nat.le_of_ble_eq_true rfl)⟩) hS (fun q _ h => hFc q h) hFc (fun r_95 u t H locs ht hvm w_94 hB hz1 hk1 hS => ?_)
                        obtain ⟨v_96, fa_97⟩ := u
                        obtain ⟨hP1, hK1, hD1⟩ := hB
                        rw [ht] at hP1
                        have hP : va_P (dC, dI) vwCl (mW g0 pq cp v_96 fa_97) H := hP1
                        have hD : va_D A (mW g0 pq cp v_96 fa_97) := hD1.weaken (fun _ _ _ h => hFc _ h)
                        clear hP1 hK1 hD1 hk1 hz1 hvm ht hFc
                        obtain ⟨hV_98, hA_99, hR_100, hx_101⟩ := w_94
                        dsimp only at hV_98 hA_99 hR_100 hx_101
                        have g_102 : (v_96 38).toInt = (v_66 38).toInt := congrArg Int32.toInt (hR_100.1 38 rfl)
                        have g_103 : (v_96 39).toInt = (v_66 39).toInt := congrArg Int32.toInt (hR_100.1 39 rfl)
                        have g_104 : (v_96 40).toInt = (v_66 40).toInt := congrArg Int32.toInt (hR_100.1 40 rfl)
                        have g_105 : (v_96 43).toInt = (v_66 43).toInt := congrArg Int32.toInt (hR_100.1 43 rfl)
                        have g_106 : (fa_97 4 (x1 : Int32).toNatClampNeg).toInt = (fz_89 4 (x1 : Int32).toNatClampNeg).toInt := congrArg (fun h : Nat → Int32 => Int32.toInt (h (x1 : Int32).toNatClampNeg)) (hR_100.2 4 rfl)
                        have R_107 : mX [0, 20, 21, 22, 23, 24, 25, 26, 28, 43, 45, 47, 48, 49, 50, 51, 52, 53, 54, 55, 56, 57, 58, 59, 60] v fa v_96 fa_97 := mX.st hRfz_89 (mX.scr hR_100) (by decide +kernel)
                        try rw [show (0 : Int32).toInt = 0 from (by decide +kernel)] at hx_101
                        try rw [gx_93] at hx_101
                        have sc_108 := scr.tr sc_91 hR_100
                        have q0_109 : fa_97 0 = fa 0 := (hR_100.2 0 rfl).trans q0_92
                        refine lv_if_gt (tgt := 256) hx hb dX11_sign__246 (by decide +kernel) (fun c_110 => ?_) (fun c_110 => ?_)
                        · have dc_110 := c_lt (a := 0) (b := r_95.toInt) (by decide +kernel) rfl c_110
                          refine lv_aload_n hx hb dX11_sign__256 rfl (lv_at hl 2 rfl) ?_
                          refine va_get (D := (dC, dI)) (ci := 11) (v := .int (v_96 43)) (C := RX11) (T := TX11) (N := 63) hx hb hts in_wsX11_sign__X11 hown hK hP 0 rfl rfl 43 (by decide +kernel) (hts (.fieldLink RX11 168 "ShipOfficeModel" "agreements" "I") iw_X11_sign__1) (fun _ h9 => h9) rfl dX11_sign__257 ?_
                          refine lv_topi (fun x_111 ex_111 => ?_)
                          have hx_111 : 0 ≤ x_111.toInt ∧ x_111.toInt ≤ 60 := iv_of ex_111 (hV_98 43)
                          have gx_111 : x_111.toInt = (v_96 43).toInt := iv_to ex_111
                          clear ex_111
                          refine lv_istore (lv' := [(7, .int x_111), (6, .int y_53), (0, .ref g0), (1, .int x1), (2, .int x2), (3, .int x3), (4, .int x4), (5, .int x5)]) hx hb dX11_sign__260 hl (by decide +kernel) rfl (fun ls hl => ?_)
                          refine lv_aload_n hx hb dX11_sign__262 rfl (lv_at hl 2 rfl) ?_
                          refine lv_dup hx hb dX11_sign__263 rfl ?_
                          refine va_get (D := (dC, dI)) (ci := 11) (v := .int (v_96 43)) (C := RX11) (T := TX11) (N := 63) hx hb hts in_wsX11_sign__X11 hown hK hP 0 rfl rfl 43 (by decide +kernel) (hts (.fieldLink RX11 168 "ShipOfficeModel" "agreements" "I") iw_X11_sign__1) (fun _ h9 => h9) rfl dX11_sign__264 ?_
                          refine lv_topi (fun x_112 ex_112 => ?_)
                          have hx_112 : 0 ≤ x_112.toInt ∧ x_112.toInt ≤ 60 := iv_of ex_112 (hV_98 43)
                          have gx_112 : x_112.toInt = (v_96 43).toInt := iv_to ex_112
                          clear ex_112
                          refine lv_iconst (v := 1) hx hb dX11_sign__267 (by decide +kernel) ?_
                          refine lv_iadd hx hb dX11_sign__268 ?_
                          refine lv_topi (fun x_113 ex_113 => ?_)
                          have hx_113 : x_113.toInt = x_112.toInt + 1 := (iv_to ex_113).trans (ad_i rfl (by decide +kernel) (by omega) (by omega))
                          refine va_put (D := (dC, dI)) (ci := 11) (v := .int x_113) (ty := .int) (C := RX11) (T := TX11) (N := 63) hx hb hts in_wsX11_sign__X11 tyX11 tyX11_ok nmX11 hown hK hP hD hS 0 rfl rfl 43 (by decide +kernel) (hts (.fieldLink RX11 168 "ShipOfficeModel" "agreements" "I") iw_X11_sign__1) (fun _ h9 => h9) rfl (by decide +kernel) rfl rfl (Nat.le_of_ble_eq_true rfl) dX11_sign__269 (fun H locs hP hD hS => ?_)
                          have hP : va_P (dC, dI) vwCl (mW g0 pq cp (upd v_96 43 x_113) fa_97) H := hP
                          have hD : va_D A (mW g0 pq cp (upd v_96 43 x_113) fa_97) := hD
                          obtain ⟨z_114, ez_114⟩ : ∃ zq, zq = (upd v_96 43 x_113) := ⟨_, rfl⟩
                          rw [← ez_114] at hP hD
                          have hVz_114 : mV z_114 := by rw [ez_114]; exact mV_upd (lo := 0) (hi := 60) hV_98 rfl rfl (by omega)
                          have hRz_114 : mX [0, 20, 21, 22, 23, 24, 25, 26, 28, 43, 45, 47, 48, 49, 50, 51, 52, 53, 54, 55, 56, 57, 58, 59, 60] v fa z_114 fa_97 := by rw [ez_114]; exact mX.up R_107 (by decide +kernel)
                          have g_115 : (z_114 38).toInt = (v_96 38).toInt := by rw [ez_114]; exact congrArg Int32.toInt (if_neg (by decide +kernel))
                          have g_116 : (z_114 39).toInt = (v_96 39).toInt := by rw [ez_114]; exact congrArg Int32.toInt (if_neg (by decide +kernel))
                          have g_117 : (z_114 40).toInt = (v_96 40).toInt := by rw [ez_114]; exact congrArg Int32.toInt (if_neg (by decide +kernel))
                          have g_118 : (z_114 43).toInt = x_113.toInt := by rw [ez_114, show upd v_96 43 x_113 43 = x_113 from if_pos rfl]
                          refine lv_aload_n hx hb dX11_sign__272 rfl (lv_at hl 2 rfl) ?_
                          refine va_get (D := (dC, dI)) (ci := 11) (v := .ref (pq 20)) (C := RX11) (T := TX11) (N := 63) hx hb hts in_wsX11_sign__X11 hown hK hP 0 rfl rfl 20 (by decide +kernel) (hts (.fieldLink RX11 70 "ShipOfficeModel" "man" "[I") iw_X11_sign__5) (fun _ h9 => h9) rfl dX11_sign__273 ?_
                          refine lv_iload hx hb dX11_sign__276 (lv_at hl 0 rfl) ?_
                          refine lv_iload_n hx hb dX11_sign__278 rfl (lv_at hl 3 rfl) ?_
                          refine va_iast hx hb hK hP hD hS 21 20 rfl rfl (vp_in_iff.mpr (by omega)) dX11_sign__279 (fun H locs hP hD hS => ?_)
                          have hP : va_P (dC, dI) vwCl (mW g0 pq cp z_114 (upF fa_97 20 (x_111 : Int32).toNatClampNeg x1)) H := hP
                          have hD : va_D A (mW g0 pq cp z_114 (upF fa_97 20 (x_111 : Int32).toNatClampNeg x1)) := hD
                          obtain ⟨fz_119, efz_119⟩ : ∃ zq, zq = (upF fa_97 20 (x_111 : Int32).toNatClampNeg x1) := ⟨_, rfl⟩
                          rw [← efz_119] at hP hD
                          have hAfz_119 : mA fz_119 := by rw [efz_119]; exact mA_upF (lo := 0) (hi := 39) hA_99 rfl rfl (by omega)
                          have hRfz_119 : mX [0, 20, 21, 22, 23, 24, 25, 26, 28, 43, 45, 47, 48, 49, 50, 51, 52, 53, 54, 55, 56, 57, 58, 59, 60] v fa z_114 fz_119 := by rw [efz_119]; exact mX.uF hRz_114 (by decide +kernel)
                          have g_120 : (fz_119 4 (x1 : Int32).toNatClampNeg).toInt = (fa_97 4 (x1 : Int32).toNatClampNeg).toInt := by rw [efz_119]; exact uF_ne (by decide +kernel)
                          have q0_121 : fz_119 0 = fa 0 := by rw [efz_119]; exact (if_neg (by decide +kernel)).trans q0_109
                          refine lv_aload_n hx hb dX11_sign__280 rfl (lv_at hl 2 rfl) ?_
                          refine va_get (D := (dC, dI)) (ci := 11) (v := .ref (pq 21)) (C := RX11) (T := TX11) (N := 63) hx hb hts in_wsX11_sign__X11 hown hK hP 0 rfl rfl 21 (by decide +kernel) (hts (.fieldLink RX11 73 "ShipOfficeModel" "voyage" "[I") iw_X11_sign__6) (fun _ h9 => h9) rfl dX11_sign__281 ?_
                          refine lv_iload hx hb dX11_sign__284 (lv_at hl 0 rfl) ?_
                          refine lv_iload_n hx hb dX11_sign__286 rfl (lv_at hl 4 rfl) ?_
                          refine va_iast hx hb hK hP hD hS 22 21 rfl rfl (vp_in_iff.mpr (by omega)) dX11_sign__287 (fun H locs hP hD hS => ?_)
                          have hP : va_P (dC, dI) vwCl (mW g0 pq cp z_114 (upF fz_119 21 (x_111 : Int32).toNatClampNeg x2)) H := hP
                          have hD : va_D A (mW g0 pq cp z_114 (upF fz_119 21 (x_111 : Int32).toNatClampNeg x2)) := hD
                          obtain ⟨fz_122, efz_122⟩ : ∃ zq, zq = (upF fz_119 21 (x_111 : Int32).toNatClampNeg x2) := ⟨_, rfl⟩
                          rw [← efz_122] at hP hD
                          have hAfz_122 : mA fz_122 := by rw [efz_122]; exact mA_upF (lo := 0) (hi := 19) hAfz_119 rfl rfl (by omega)
                          have hRfz_122 : mX [0, 20, 21, 22, 23, 24, 25, 26, 28, 43, 45, 47, 48, 49, 50, 51, 52, 53, 54, 55, 56, 57, 58, 59, 60] v fa z_114 fz_122 := by rw [efz_122]; exact mX.uF hRfz_119 (by decide +kernel)
                          have g_123 : (fz_122 4 (x1 : Int32).toNatClampNeg).toInt = (fz_119 4 (x1 : Int32).toNatClampNeg).toInt := by rw [efz_122]; exact uF_ne (by decide +kernel)
                          have q0_124 : fz_122 0 = fa 0 := by rw [efz_122]; exact (if_neg (by decide +kernel)).trans q0_121
                          refine lv_aload_n hx hb dX11_sign__288 rfl (lv_at hl 2 rfl) ?_
                          refine va_get (D := (dC, dI)) (ci := 11) (v := .ref (pq 22)) (C := RX11) (T := TX11) (N := 63) hx hb hts in_wsX11_sign__X11 hown hK hP 0 rfl rfl 22 (by decide +kernel) (hts (.fieldLink RX11 76 "ShipOfficeModel" "wage" "[I") iw_X11_sign__7) (fun _ h9 => h9) rfl dX11_sign__289 ?_
                          refine lv_iload hx hb dX11_sign__292 (lv_at hl 0 rfl) ?_
                          refine lv_iload_n hx hb dX11_sign__294 rfl (lv_at hl 5 rfl) ?_
                          refine va_iast hx hb hK hP hD hS 23 22 rfl rfl (vp_in_iff.mpr (by omega)) dX11_sign__295 (fun H locs hP hD hS => ?_)
                          have hP : va_P (dC, dI) vwCl (mW g0 pq cp z_114 (upF fz_122 22 (x_111 : Int32).toNatClampNeg x3)) H := hP
                          have hD : va_D A (mW g0 pq cp z_114 (upF fz_122 22 (x_111 : Int32).toNatClampNeg x3)) := hD
                          obtain ⟨fz_125, efz_125⟩ : ∃ zq, zq = (upF fz_122 22 (x_111 : Int32).toNatClampNeg x3) := ⟨_, rfl⟩
                          rw [← efz_125] at hP hD
                          have hAfz_125 : mA fz_125 := by rw [efz_125]; exact mA_upF (lo := -2147483648) (hi := 2147483647) hAfz_122 rfl rfl (iv_all _)
                          have hRfz_125 : mX [0, 20, 21, 22, 23, 24, 25, 26, 28, 43, 45, 47, 48, 49, 50, 51, 52, 53, 54, 55, 56, 57, 58, 59, 60] v fa z_114 fz_125 := by rw [efz_125]; exact mX.uF hRfz_122 (by decide +kernel)
                          have g_126 : (fz_125 4 (x1 : Int32).toNatClampNeg).toInt = (fz_122 4 (x1 : Int32).toNatClampNeg).toInt := by rw [efz_125]; exact uF_ne (by decide +kernel)
                          have q0_127 : fz_125 0 = fa 0 := by rw [efz_125]; exact (if_neg (by decide +kernel)).trans q0_124
                          refine lv_aload_n hx hb dX11_sign__296 rfl (lv_at hl 2 rfl) ?_
                          refine va_get (D := (dC, dI)) (ci := 11) (v := .ref (pq 23)) (C := RX11) (T := TX11) (N := 63) hx hb hts in_wsX11_sign__X11 hown hK hP 0 rfl rfl 23 (by decide +kernel) (hts (.fieldLink RX11 79 "ShipOfficeModel" "rank" "[I") iw_X11_sign__8) (fun _ h9 => h9) rfl dX11_sign__297 ?_
                          refine lv_iload hx hb dX11_sign__300 (lv_at hl 0 rfl) ?_
                          refine lv_iload hx hb dX11_sign__302 (lv_at hl 6 rfl) ?_
                          refine va_iast hx hb hK hP hD hS 24 23 rfl rfl (vp_in_iff.mpr (by omega)) dX11_sign__304 (fun H locs hP hD hS => ?_)
                          have hP : va_P (dC, dI) vwCl (mW g0 pq cp z_114 (upF fz_125 23 (x_111 : Int32).toNatClampNeg x4)) H := hP
                          have hD : va_D A (mW g0 pq cp z_114 (upF fz_125 23 (x_111 : Int32).toNatClampNeg x4)) := hD
                          obtain ⟨fz_128, efz_128⟩ : ∃ zq, zq = (upF fz_125 23 (x_111 : Int32).toNatClampNeg x4) := ⟨_, rfl⟩
                          rw [← efz_128] at hP hD
                          have hAfz_128 : mA fz_128 := by rw [efz_128]; exact mA_upF (lo := -2147483648) (hi := 2147483647) hAfz_125 rfl rfl (iv_all _)
                          have hRfz_128 : mX [0, 20, 21, 22, 23, 24, 25, 26, 28, 43, 45, 47, 48, 49, 50, 51, 52, 53, 54, 55, 56, 57, 58, 59, 60] v fa z_114 fz_128 := by rw [efz_128]; exact mX.uF hRfz_125 (by decide +kernel)
                          have g_129 : (fz_128 4 (x1 : Int32).toNatClampNeg).toInt = (fz_125 4 (x1 : Int32).toNatClampNeg).toInt := by rw [efz_128]; exact uF_ne (by decide +kernel)
                          have q0_130 : fz_128 0 = fa 0 := by rw [efz_128]; exact (if_neg (by decide +kernel)).trans q0_127
                          refine lv_aload_n hx hb dX11_sign__305 rfl (lv_at hl 2 rfl) ?_
                          refine va_get (D := (dC, dI)) (ci := 11) (v := .ref (pq 24)) (C := RX11) (T := TX11) (N := 63) hx hb hts in_wsX11_sign__X11 hown hK hP 0 rfl rfl 24 (by decide +kernel) (hts (.fieldLink RX11 82 "ShipOfficeModel" "paper" "[I") iw_X11_sign__9) (fun _ h9 => h9) rfl dX11_sign__306 ?_
                          refine lv_iload hx hb dX11_sign__309 (lv_at hl 0 rfl) ?_
                          refine lv_iload hx hb dX11_sign__311 (lv_at hl 7 rfl) ?_
                          refine va_iast hx hb hK hP hD hS 25 24 rfl rfl (vp_in_iff.mpr (by omega)) dX11_sign__313 (fun H locs hP hD hS => ?_)
                          have hP : va_P (dC, dI) vwCl (mW g0 pq cp z_114 (upF fz_128 24 (x_111 : Int32).toNatClampNeg x5)) H := hP
                          have hD : va_D A (mW g0 pq cp z_114 (upF fz_128 24 (x_111 : Int32).toNatClampNeg x5)) := hD
                          obtain ⟨fz_131, efz_131⟩ : ∃ zq, zq = (upF fz_128 24 (x_111 : Int32).toNatClampNeg x5) := ⟨_, rfl⟩
                          rw [← efz_131] at hP hD
                          have hAfz_131 : mA fz_131 := by rw [efz_131]; exact mA_upF (lo := -1) (hi := 59) hAfz_128 rfl rfl (by omega)
                          have hRfz_131 : mX [0, 20, 21, 22, 23, 24, 25, 26, 28, 43, 45, 47, 48, 49, 50, 51, 52, 53, 54, 55, 56, 57, 58, 59, 60] v fa z_114 fz_131 := by rw [efz_131]; exact mX.uF hRfz_128 (by decide +kernel)
                          have g_132 : (fz_131 4 (x1 : Int32).toNatClampNeg).toInt = (fz_128 4 (x1 : Int32).toNatClampNeg).toInt := by rw [efz_131]; exact uF_ne (by decide +kernel)
                          have q0_133 : fz_131 0 = fa 0 := by rw [efz_131]; exact (if_neg (by decide +kernel)).trans q0_130
                          refine lv_aload_n hx hb dX11_sign__314 rfl (lv_at hl 2 rfl) ?_
                          refine va_get (D := (dC, dI)) (ci := 11) (v := .ref (pq 25)) (C := RX11) (T := TX11) (N := 63) hx hb hts in_wsX11_sign__X11 hown hK hP 0 rfl rfl 25 (by decide +kernel) (hts (.fieldLink RX11 85 "ShipOfficeModel" "signed" "[I") iw_X11_sign__10) (fun _ h9 => h9) rfl dX11_sign__315 ?_
                          refine lv_iload hx hb dX11_sign__318 (lv_at hl 0 rfl) ?_
                          refine lv_aload_n hx hb dX11_sign__320 rfl (lv_at hl 2 rfl) ?_
                          refine va_get (D := (dC, dI)) (ci := 11) (v := .int (z_114 38)) (C := RX11) (T := TX11) (N := 63) hx hb hts in_wsX11_sign__X11 hown hK hP 0 rfl rfl 38 (by decide +kernel) (hts (.fieldLink RX11 171 "ShipOfficeModel" "now" "I") iw_X11_sign__3) (fun _ h9 => h9) rfl dX11_sign__321 ?_
                          refine lv_topi (fun x_134 ex_134 => ?_)
                          have hx_134 : 0 ≤ x_134.toInt ∧ x_134.toInt ≤ 3000 := iv_of ex_134 (hVz_114 38)
                          have gx_134 : x_134.toInt = (z_114 38).toInt := iv_to ex_134
                          clear ex_134
                          refine va_iast hx hb hK hP hD hS 26 25 rfl rfl (vp_in_iff.mpr (by omega)) dX11_sign__324 (fun H locs hP hD hS => ?_)
                          have hP : va_P (dC, dI) vwCl (mW g0 pq cp z_114 (upF fz_131 25 (x_111 : Int32).toNatClampNeg x_134)) H := hP
                          have hD : va_D A (mW g0 pq cp z_114 (upF fz_131 25 (x_111 : Int32).toNatClampNeg x_134)) := hD
                          obtain ⟨fz_135, efz_135⟩ : ∃ zq, zq = (upF fz_131 25 (x_111 : Int32).toNatClampNeg x_134) := ⟨_, rfl⟩
                          rw [← efz_135] at hP hD
                          have hAfz_135 : mA fz_135 := by rw [efz_135]; exact mA_upF (lo := 0) (hi := 3000) hAfz_131 rfl rfl (by omega)
                          have hRfz_135 : mX [0, 20, 21, 22, 23, 24, 25, 26, 28, 43, 45, 47, 48, 49, 50, 51, 52, 53, 54, 55, 56, 57, 58, 59, 60] v fa z_114 fz_135 := by rw [efz_135]; exact mX.uF hRfz_131 (by decide +kernel)
                          have g_136 : (fz_135 4 (x1 : Int32).toNatClampNeg).toInt = (fz_131 4 (x1 : Int32).toNatClampNeg).toInt := by rw [efz_135]; exact uF_ne (by decide +kernel)
                          have q0_137 : fz_135 0 = fa 0 := by rw [efz_135]; exact (if_neg (by decide +kernel)).trans q0_133
                          refine lv_aload_n hx hb dX11_sign__325 rfl (lv_at hl 2 rfl) ?_
                          refine va_get (D := (dC, dI)) (ci := 11) (v := .ref (pq 26)) (C := RX11) (T := TX11) (N := 63) hx hb hts in_wsX11_sign__X11 hown hK hP 0 rfl rfl 26 (by decide +kernel) (hts (.fieldLink RX11 88 "ShipOfficeModel" "offOn" "[I") iw_X11_sign__11) (fun _ h9 => h9) rfl dX11_sign__326 ?_
                          refine lv_iload hx hb dX11_sign__329 (lv_at hl 0 rfl) ?_
                          refine lv_iconst (v := (-1)) hx hb dX11_sign__331 (by decide +kernel) ?_
                          refine va_iast hx hb hK hP hD hS 27 26 rfl rfl (vp_in_iff.mpr (by omega)) dX11_sign__332 (fun H locs hP hD hS => ?_)
                          have hP : va_P (dC, dI) vwCl (mW g0 pq cp z_114 (upF fz_135 26 (x_111 : Int32).toNatClampNeg (-1))) H := hP
                          have hD : va_D A (mW g0 pq cp z_114 (upF fz_135 26 (x_111 : Int32).toNatClampNeg (-1))) := hD
                          obtain ⟨fz_138, efz_138⟩ : ∃ zq, zq = (upF fz_135 26 (x_111 : Int32).toNatClampNeg (-1)) := ⟨_, rfl⟩
                          rw [← efz_138] at hP hD
                          have hAfz_138 : mA fz_138 := by rw [efz_138]; exact mA_upF (lo := -2147483648) (hi := 2147483647) hAfz_135 rfl rfl (iv_all _)
                          have hRfz_138 : mX [0, 20, 21, 22, 23, 24, 25, 26, 28, 43, 45, 47, 48, 49, 50, 51, 52, 53, 54, 55, 56, 57, 58, 59, 60] v fa z_114 fz_138 := by rw [efz_138]; exact mX.uF hRfz_135 (by decide +kernel)
                          have g_139 : (fz_138 4 (x1 : Int32).toNatClampNeg).toInt = (fz_135 4 (x1 : Int32).toNatClampNeg).toInt := by rw [efz_138]; exact uF_ne (by decide +kernel)
                          have q0_140 : fz_138 0 = fa 0 := by rw [efz_138]; exact (if_neg (by decide +kernel)).trans q0_137
                          refine lv_aload_n hx hb dX11_sign__333 rfl (lv_at hl 2 rfl) ?_
                          refine va_get (D := (dC, dI)) (ci := 11) (v := .ref (pq 28)) (C := RX11) (T := TX11) (N := 63) hx hb hts in_wsX11_sign__X11 hown hK hP 0 rfl rfl 28 (by decide +kernel) (hts (.fieldLink RX11 94 "ShipOfficeModel" "given" "[I") iw_X11_sign__12) (fun _ h9 => h9) rfl dX11_sign__334 ?_
                          refine lv_iload hx hb dX11_sign__337 (lv_at hl 0 rfl) ?_
                          refine lv_bipush (v := (-9)) hx hb dX11_sign__339 (by decide +kernel) ?_
                          refine va_iast hx hb hK hP hD hS 29 28 rfl rfl (vp_in_iff.mpr (by omega)) dX11_sign__341 (fun H locs hP hD hS => ?_)
                          have hP : va_P (dC, dI) vwCl (mW g0 pq cp z_114 (upF fz_138 28 (x_111 : Int32).toNatClampNeg (-9))) H := hP
                          have hD : va_D A (mW g0 pq cp z_114 (upF fz_138 28 (x_111 : Int32).toNatClampNeg (-9))) := hD
                          obtain ⟨fz_141, efz_141⟩ : ∃ zq, zq = (upF fz_138 28 (x_111 : Int32).toNatClampNeg (-9)) := ⟨_, rfl⟩
                          rw [← efz_141] at hP hD
                          have hAfz_141 : mA fz_141 := by rw [efz_141]; exact mA_upF (lo := -2147483648) (hi := 2147483647) hAfz_138 rfl rfl (iv_all _)
                          have hRfz_141 : mX [0, 20, 21, 22, 23, 24, 25, 26, 28, 43, 45, 47, 48, 49, 50, 51, 52, 53, 54, 55, 56, 57, 58, 59, 60] v fa z_114 fz_141 := by rw [efz_141]; exact mX.uF hRfz_138 (by decide +kernel)
                          have g_142 : (fz_141 4 (x1 : Int32).toNatClampNeg).toInt = (fz_138 4 (x1 : Int32).toNatClampNeg).toInt := by rw [efz_141]; exact uF_ne (by decide +kernel)
                          have q0_143 : fz_141 0 = fa 0 := by rw [efz_141]; exact (if_neg (by decide +kernel)).trans q0_140
                          refine lv_iload hx hb dX11_sign__342 (lv_at hl 0 rfl) ?_
                          exact W.iret (v := x_111) hx hb hr (fun t ht hW => ⟨⟨x_111, (z_114, fz_141), rfl, ⟨hVz_114, hAfz_141, hRfz_141, ⟨by have eb : x_86 = fa 4 x1.toNatClampNeg := (Int32.toInt_inj.mp gx_86).trans (congrFun (sc_83.2 4 rfl) _); have en_ : x_85 = v 38 := Int32.toInt_inj.mp (by omega); have ey : x_88 = yrs v fa x1.toNatClampNeg := (by unfold yrs; rw [ex_88, ex_87, eb, en_]); have hL : eqL (fz_89 45) (ltS x3 x4 (yrs v fa x1.toNatClampNeg)) := eqL_sg hx_71 (by rw [efz_89, efz_82, efz_79, ey] <;> rfl); have hwo : r_95 = wrt v fa 0 (v 38).toInt (ltS x3 x4 (yrs v fa x1.toNatClampNeg)) := (by rw [hx_101]; (try rw [show x_93.toInt = (v 38).toInt from (by omega)]); (try rw [show (v_66 38).toInt = (v 38).toInt from (by omega)]); exact wrt_c hWl (sc_91.1 42 rfl) (sc_91.2 19 rfl) (sc_91.2 16 rfl) (sc_91.2 17 rfl) (sc_91.2 18 rfl) hL); have hwi : r_95.toInt = (wrt v fa 0 (v 38).toInt (ltS x3 x4 (yrs v fa x1.toNatClampNeg))).toInt := congrArg Int32.toInt hwo; exact Or.inr (Or.inr (Or.inr (Or.inr ⟨(by first | assumption | (unfold sgK; omega)), by omega, by omega, by unfold sgY; omega, by omega, by omega⟩))), Or.inr ⟨by omega, (by dsimp only; exact q0_143), by dsimp only; omega, (by dsimp only; rw [efz_141, efz_138, efz_135, efz_131, efz_128, efz_125, efz_122, efz_119, show x_111 = v 43 from Int32.toInt_inj.mp (by omega)]; exact congrArg (fun f => upd f _ _) (sc_108.2 20 rfl)), (by dsimp only; rw [efz_141, efz_138, efz_135, efz_131, efz_128, efz_125, efz_122, efz_119, show x_111 = v 43 from Int32.toInt_inj.mp (by omega)]; exact congrArg (fun f => upd f _ _) (sc_108.2 21 rfl)), (by dsimp only; rw [efz_141, efz_138, efz_135, efz_131, efz_128, efz_125, efz_122, efz_119, show x_111 = v 43 from Int32.toInt_inj.mp (by omega)]; exact congrArg (fun f => upd f _ _) (sc_108.2 22 rfl)), (by dsimp only; rw [efz_141, efz_138, efz_135, efz_131, efz_128, efz_125, efz_122, efz_119, show x_111 = v 43 from Int32.toInt_inj.mp (by omega)]; exact congrArg (fun f => upd f _ _) (sc_108.2 23 rfl)), (by dsimp only; rw [efz_141, efz_138, efz_135, efz_131, efz_128, efz_125, efz_122, efz_119, show x_111 = v 43 from Int32.toInt_inj.mp (by omega)]; exact congrArg (fun f => upd f _ _) (sc_108.2 24 rfl)), (by dsimp only; rw [efz_141, efz_138, efz_135, efz_131, efz_128, efz_125, efz_122, efz_119, show x_111 = v 43 from Int32.toInt_inj.mp (by omega), show x_134 = v 38 from Int32.toInt_inj.mp (by omega)]; exact congrArg (fun f => upd f _ _) (sc_108.2 25 rfl)), (by dsimp only; rw [efz_141, efz_138, efz_135, efz_131, efz_128, efz_125, efz_122, efz_119, show x_111 = v 43 from Int32.toInt_inj.mp (by omega)]; exact congrArg (fun f => upd f _ _) (sc_108.2 26 rfl)), (by dsimp only; rw [efz_141, efz_138, efz_135, efz_131, efz_128, efz_125, efz_122, efz_119, show x_111 = v 43 from Int32.toInt_inj.mp (by omega)]; exact congrArg (fun f => upd f _ _) (sc_108.2 28 rfl))⟩⟩⟩, ⟨by rw [ht]; exact hP, va_K.moved hW.alike hK, hD⟩⟩, hS.F ht⟩) hS.2.2 dX11_sign__344
                        · have dc_110 := c_nlt (a := 0) (b := r_95.toInt) (by decide +kernel) rfl c_110
                          refine lv_aload_n hx hb dX11_sign__249 rfl (lv_at hl 2 rfl) ?_
                          refine lv_bipush (v := (-3)) hx hb dX11_sign__250 (by decide +kernel) ?_
                          have hFc := va_free (wc := (mW g0 pq cp v_96 fa_97)) hD hS hA (List.range 48) rfl
                          refine va_calli (va_runV (As := [.int (-3)]) (rest := []) ⟨hx, hb, hml, hown, hts⟩ (c_X11_refuse_f l dC dI H.size g0 pq cp v_96 fa_97 (-3) (by unfold vp_in; decide)) (cwV 1 hts gX11_sign__X11_refuse rfl rfl rfl (by decide +kernel) ⟨(Nat.le_of_ble_eq_true rfl), (Nat.le_of_ble_eq_true rfl)⟩) (pr_V (r := (RX11, TX11, 63)) hP hK hD 0 11 rfl rfl) rfl rfl hl.1 rfl (lv_room (Nat.le_of_ble_eq_true rfl)) dX11_sign__252 ⟨(Nat.le_of_ble_eq_true rfl), (Nat.le_of_ble_eq_true rfl)⟩) hS (fun q _ h => hFc q h) hFc (fun r_145 u t H locs ht hvm w_144 hB hz1 hk1 hS => ?_)
                          obtain ⟨v_146, fa_147⟩ := u
                          obtain ⟨hP1, hK1, hD1⟩ := hB
                          rw [ht] at hP1
                          have hP : va_P (dC, dI) vwCl (mW g0 pq cp v_146 fa_147) H := hP1
                          have hD : va_D A (mW g0 pq cp v_146 fa_147) := hD1.weaken (fun _ _ _ h => hFc _ h)
                          clear hP1 hK1 hD1 hk1 hz1 hvm ht hFc
                          obtain ⟨rfl, hs1_148⟩ := w_144
                          have hVv_146 : mV v_146 := sm0_V (sm1_0 hs1_148) hV_98
                          have hAv_146 : mA fa_147 := sm0_A (sm1_0 hs1_148) hA_99
                          have g_149 : (v_146 38).toInt = (v_96 38).toInt := congrArg Int32.toInt (congrFun hs1_148.1 38)
                          have g_150 : (v_146 39).toInt = (v_96 39).toInt := congrArg Int32.toInt (congrFun hs1_148.1 39)
                          have g_151 : (v_146 40).toInt = (v_96 40).toInt := congrArg Int32.toInt (congrFun hs1_148.1 40)
                          have g_152 : (v_146 43).toInt = (v_96 43).toInt := congrArg Int32.toInt (congrFun hs1_148.1 43)
                          have hRv_146 : mX [0, 20, 21, 22, 23, 24, 25, 26, 28, 43, 45, 47, 48, 49, 50, 51, 52, 53, 54, 55, 56, 57, 58, 59, 60] v fa v_146 fa_147 := mX.st R_107 (mX.s0 (sm1_0 hs1_148)) (by decide +kernel)
                          exact W.iret (v := (-3)) hx hb hr (fun t ht hW => ⟨⟨(-3), (v_146, fa_147), rfl, ⟨hVv_146, hAv_146, hRv_146, ⟨by have rc : ((-3) : Int32).toInt = -3 := (by decide +kernel); have eb : x_86 = fa 4 x1.toNatClampNeg := (Int32.toInt_inj.mp gx_86).trans (congrFun (sc_83.2 4 rfl) _); have en_ : x_85 = v 38 := Int32.toInt_inj.mp (by omega); have ey : x_88 = yrs v fa x1.toNatClampNeg := (by unfold yrs; rw [ex_88, ex_87, eb, en_]); have hL : eqL (fz_89 45) (ltS x3 x4 (yrs v fa x1.toNatClampNeg)) := eqL_sg hx_71 (by rw [efz_89, efz_82, efz_79, ey] <;> rfl); have hwo : r_95 = wrt v fa 0 (v 38).toInt (ltS x3 x4 (yrs v fa x1.toNatClampNeg)) := (by rw [hx_101]; (try rw [show x_93.toInt = (v 38).toInt from (by omega)]); (try rw [show (v_66 38).toInt = (v 38).toInt from (by omega)]); exact wrt_c hWl (sc_91.1 42 rfl) (sc_91.2 19 rfl) (sc_91.2 16 rfl) (sc_91.2 17 rfl) (sc_91.2 18 rfl) hL); have hwi : r_95.toInt = (wrt v fa 0 (v 38).toInt (ltS x3 x4 (yrs v fa x1.toNatClampNeg))).toInt := congrArg Int32.toInt hwo; exact Or.inr (Or.inr (Or.inr (Or.inl ⟨(by first | assumption | (unfold sgK; omega)), by omega, by omega, by first | exact Or.inr (by omega) | exact Or.inl (by unfold sgY; omega), rc⟩))), Or.inl ⟨by decide, sm2_s sc_108 hs1_148⟩⟩⟩, ⟨by rw [ht]; exact hP, va_K.moved hW.alike hK, hD⟩⟩, hS.F ht⟩) hS.2.2 dX11_sign__255
                      · have dc_63 := c_eq (a := y_53.toInt) (b := 0) rfl (by decide +kernel) c_63
                        refine lv_aload_n hx hb dX11_sign__187 rfl (lv_at hl 2 rfl) ?_
                        refine lv_bipush (v := (-3)) hx hb dX11_sign__188 (by decide +kernel) ?_
                        have hFc := va_free (wc := (mW g0 pq cp v fa)) hD hS hA (List.range 48) rfl
                        refine va_calli (va_runV (As := [.int (-3)]) (rest := []) ⟨hx, hb, hml, hown, hts⟩ (c_X11_refuse_f l dC dI H.size g0 pq cp v fa (-3) (by unfold vp_in; decide)) (cwV 1 hts gX11_sign__X11_refuse rfl rfl rfl (by decide +kernel) ⟨(Nat.le_of_ble_eq_true rfl), (Nat.le_of_ble_eq_true rfl)⟩) (pr_V (r := (RX11, TX11, 63)) hP hK hD 0 11 rfl rfl) rfl rfl hl.1 rfl (lv_room (Nat.le_of_ble_eq_true rfl)) dX11_sign__190 ⟨(Nat.le_of_ble_eq_true rfl), (Nat.le_of_ble_eq_true rfl)⟩) hS (fun q _ h => hFc q h) hFc (fun r_154 u t H locs ht hvm w_153 hB hz1 hk1 hS => ?_)
                        obtain ⟨v_155, fa_156⟩ := u
                        obtain ⟨hP1, hK1, hD1⟩ := hB
                        rw [ht] at hP1
                        have hP : va_P (dC, dI) vwCl (mW g0 pq cp v_155 fa_156) H := hP1
                        have hD : va_D A (mW g0 pq cp v_155 fa_156) := hD1.weaken (fun _ _ _ h => hFc _ h)
                        clear hP1 hK1 hD1 hk1 hz1 hvm ht hFc
                        obtain ⟨rfl, hs1_157⟩ := w_153
                        have hVv_155 : mV v_155 := sm0_V (sm1_0 hs1_157) hVz_55
                        have hAv_155 : mA fa_156 := sm0_A (sm1_0 hs1_157) hAz_55
                        have g_158 : (v_155 38).toInt = (v 38).toInt := congrArg Int32.toInt (congrFun hs1_157.1 38)
                        have g_159 : (v_155 39).toInt = (v 39).toInt := congrArg Int32.toInt (congrFun hs1_157.1 39)
                        have g_160 : (v_155 40).toInt = (v 40).toInt := congrArg Int32.toInt (congrFun hs1_157.1 40)
                        have g_161 : (v_155 43).toInt = (v 43).toInt := congrArg Int32.toInt (congrFun hs1_157.1 43)
                        have hRv_155 : mX [0, 20, 21, 22, 23, 24, 25, 26, 28, 43, 45, 47, 48, 49, 50, 51, 52, 53, 54, 55, 56, 57, 58, 59, 60] v fa v_155 fa_156 := mX.st hRz_55 (mX.s0 (sm1_0 hs1_157)) (by decide +kernel)
                        exact W.iret (v := (-3)) hx hb hr (fun t ht hW => ⟨⟨(-3), (v_155, fa_156), rfl, ⟨hVv_155, hAv_155, hRv_155, ⟨by have rc : ((-3) : Int32).toInt = -3 := (by decide +kernel); exact Or.inr (Or.inr (Or.inr (Or.inl ⟨(by first | assumption | (unfold sgK; omega)), by omega, by omega, by first | exact Or.inl (by unfold sgY; omega) | exact Or.inr (by omega), rc⟩))), Or.inl ⟨by decide, sm2_1 hs1_157⟩⟩⟩, ⟨by rw [ht]; exact hP, va_K.moved hW.alike hK, hD⟩⟩, hS.F ht⟩) hS.2.2 dX11_sign__193
                    · have dc_62 := c_nle (a := x_61.toInt) (b := y_54.toInt) rfl rfl c_62
                      refine lv_iload hx hb dX11_sign__144 (lv_at hl 0 rfl) ?_
                      refine lv_if_eq (tgt := 173) hx hb dX11_sign__146 (by decide +kernel) (fun c_162 => ?_) (fun c_162 => ?_)
                      · have dc_162 := c_eq (a := y_53.toInt) (b := 0) rfl (by decide +kernel) c_162
                        refine lv_iconst (v := 0) hx hb dX11_sign__173 (by decide +kernel) ?_
                        refine lv_istore (lv' := [(6, .int 0), (7, .int y_54), (0, .ref g0), (1, .int x1), (2, .int x2), (3, .int x3), (4, .int x4), (5, .int x5)]) hx hb dX11_sign__174 hl (by decide +kernel) rfl (fun ls hl => ?_)
                        obtain ⟨x_163, ex_163⟩ : ∃ zq : Int32, y_54 + 1 = zq := ⟨_, rfl⟩
                        have hx_163 : x_163.toInt = y_54.toInt + 1 := (iv_to ex_163).symm.trans (ad_i rfl (by decide +kernel) (by omega) (by omega))
                        refine lv_iinc (v := x_163) (lv' := [(7, .int x_163), (6, .int 0), (0, .ref g0), (1, .int x1), (2, .int x2), (3, .int x3), (4, .int x4), (5, .int x5)]) hx hb dX11_sign__176 hl (k := 1) rfl ex_163 (by decide +kernel) rfl (fun ls hl => ?_)
                        clear ex_163
                        refine lv_goto (tgt := 135) hx hb dX11_sign__179 (by decide +kernel) ?_
                        have kc_164 : (0 : Int32).toInt = 0 := by decide
                        exact ih (n - 1) (by omega) 0 x_163 v fa _ _ ls (by omega) (by decide +kernel) (by omega) ⟨rfl, rfl⟩ (my_2 hq1_cut_52 (by omega) (by omega) (by omega)) (by omega) hVz_55 hAz_55 hRz_55 hP hD hS (by omega) (by omega) (by omega) (by omega) (lv_sub hl [1, 0, 2, 3, 4, 5, 6, 7] rfl)
                      · have dc_162 := c_ne (a := y_53.toInt) (b := 0) rfl (by decide +kernel) c_162
                        refine lv_aload_n hx hb dX11_sign__149 rfl (lv_at hl 2 rfl) ?_
                        refine va_get (D := (dC, dI)) (ci := 11) (v := .ref (pq 20)) (C := RX11) (T := TX11) (N := 63) hx hb hts in_wsX11_sign__X11 hown hK hP 0 rfl rfl 20 (by decide +kernel) (hts (.fieldLink RX11 70 "ShipOfficeModel" "man" "[I") iw_X11_sign__5) (fun _ h9 => h9) rfl dX11_sign__150 ?_
                        refine lv_iload hx hb dX11_sign__153 (lv_at hl 1 rfl) ?_
                        refine va_iald hx hb hK hP 21 20 rfl rfl (vp_in_iff.mpr (by omega)) dX11_sign__155 ?_
                        refine lv_topi (fun x_165 ex_165 => ?_)
                        have hx_165 : 0 ≤ x_165.toInt ∧ x_165.toInt ≤ 39 := iv_of ex_165 (hAz_55 20 _)
                        have gx_165 : x_165.toInt = (fa 20 (y_54 : Int32).toNatClampNeg).toInt := iv_to ex_165
                        clear ex_165
                        refine lv_iload_n hx hb dX11_sign__156 rfl (lv_at hl 3 rfl) ?_
                        refine lv_icmp_ne (tgt := 169) hx hb dX11_sign__157 (by decide +kernel) (fun c_166 => ?_) (fun c_166 => ?_)
                        · have dc_166 := c_ne (a := x_165.toInt) (b := x1.toInt) rfl rfl c_166
                          refine lv_iconst (v := 1) hx hb dX11_sign__169 (by decide +kernel) ?_
                          refine lv_goto (tgt := 174) hx hb dX11_sign__170 (by decide +kernel) ?_
                          refine lv_istore (lv' := [(6, .int 1), (7, .int y_54), (0, .ref g0), (1, .int x1), (2, .int x2), (3, .int x3), (4, .int x4), (5, .int x5)]) hx hb dX11_sign__174 hl (by decide +kernel) rfl (fun ls hl => ?_)
                          obtain ⟨x_167, ex_167⟩ : ∃ zq : Int32, y_54 + 1 = zq := ⟨_, rfl⟩
                          have hx_167 : x_167.toInt = y_54.toInt + 1 := (iv_to ex_167).symm.trans (ad_i rfl (by decide +kernel) (by omega) (by omega))
                          refine lv_iinc (v := x_167) (lv' := [(7, .int x_167), (6, .int 1), (0, .ref g0), (1, .int x1), (2, .int x2), (3, .int x3), (4, .int x4), (5, .int x5)]) hx hb dX11_sign__176 hl (k := 1) rfl ex_167 (by decide +kernel) rfl (fun ls hl => ?_)
                          clear ex_167
                          refine lv_goto (tgt := 135) hx hb dX11_sign__179 (by decide +kernel) ?_
                          have kc_168 : (1 : Int32).toInt = 1 := by decide
                          exact ih (n - 1) (by omega) 1 x_167 v fa _ _ ls (by omega) (by decide +kernel) (by omega) ⟨rfl, rfl⟩ (my_1 hq1_cut_52 (by omega) (by omega) (by omega) (by omega)) (by omega) hVz_55 hAz_55 hRz_55 hP hD hS (by omega) (by omega) (by omega) (by omega) (lv_sub hl [1, 0, 2, 3, 4, 5, 6, 7] rfl)
                        · have dc_166 := c_eq (a := x_165.toInt) (b := x1.toInt) rfl rfl c_166
                          refine lv_aload_n hx hb dX11_sign__160 rfl (lv_at hl 2 rfl) ?_
                          refine lv_iload hx hb dX11_sign__161 (lv_at hl 1 rfl) ?_
                          have hFc : ∀ q, va_A [] H.size q → A q := pu_free hS hA
                          refine va_calli (va_runV (As := [.int y_54]) (rest := []) ⟨hx, hb, hml, hown, hts⟩ (c_X11_goesOn_f l dC dI H.size g0 pq cp v fa hVz_55 hAz_55 y_54 (by omega)) (cwV 1 hts gX11_sign__X11_goesOn rfl rfl rfl (by decide +kernel) ⟨(Nat.le_of_ble_eq_true rfl), (Nat.le_of_ble_eq_true rfl)⟩) (pr_V (r := (RX11, TX11, 63)) hP hK hD 0 11 rfl rfl) rfl rfl hl.1 rfl (lv_room (Nat.le_of_ble_eq_true rfl)) dX11_sign__163 ⟨(Nat.le_of_ble_eq_true rfl), (Nat.le_of_ble_eq_true rfl)⟩) hS (fun q _ h => hFc q h) hFc (fun r_170 u t H locs ht hvm w_169 hB hz1 hk1 hS => ?_)
                          have hP := pu_keep hP hk1
                          clear hk1 hz1 hvm hB ht hFc
                          obtain ⟨hb_171, hx_172⟩ := w_169
                          refine lv_if_ne (tgt := 173) hx hb dX11_sign__166 (by decide +kernel) (fun c_173 => ?_) (fun c_173 => ?_)
                          · have dc_173 := c_ne (a := r_170.toInt) (b := 0) rfl (by decide +kernel) c_173
                            refine lv_iconst (v := 0) hx hb dX11_sign__173 (by decide +kernel) ?_
                            refine lv_istore (lv' := [(6, .int 0), (7, .int y_54), (0, .ref g0), (1, .int x1), (2, .int x2), (3, .int x3), (4, .int x4), (5, .int x5)]) hx hb dX11_sign__174 hl (by decide +kernel) rfl (fun ls hl => ?_)
                            obtain ⟨x_174, ex_174⟩ : ∃ zq : Int32, y_54 + 1 = zq := ⟨_, rfl⟩
                            have hx_174 : x_174.toInt = y_54.toInt + 1 := (iv_to ex_174).symm.trans (ad_i rfl (by decide +kernel) (by omega) (by omega))
                            refine lv_iinc (v := x_174) (lv' := [(7, .int x_174), (6, .int 0), (0, .ref g0), (1, .int x1), (2, .int x2), (3, .int x3), (4, .int x4), (5, .int x5)]) hx hb dX11_sign__176 hl (k := 1) rfl ex_174 (by decide +kernel) rfl (fun ls hl => ?_)
                            clear ex_174
                            refine lv_goto (tgt := 135) hx hb dX11_sign__179 (by decide +kernel) ?_
                            have kc_175 : (0 : Int32).toInt = 0 := by decide
                            exact ih (n - 1) (by omega) 0 x_174 v fa _ _ ls (by omega) (by decide +kernel) (by omega) ⟨rfl, rfl⟩ (my_2 hq1_cut_52 (by omega) (by omega) (by omega)) (by omega) hVz_55 hAz_55 hRz_55 hP hD hS (by omega) (by omega) (by omega) (by omega) (lv_sub hl [1, 0, 2, 3, 4, 5, 6, 7] rfl)
                          · have dc_173 := c_eq (a := r_170.toInt) (b := 0) rfl (by decide +kernel) c_173
                            refine lv_iconst (v := 1) hx hb dX11_sign__169 (by decide +kernel) ?_
                            refine lv_goto (tgt := 174) hx hb dX11_sign__170 (by decide +kernel) ?_
                            refine lv_istore (lv' := [(6, .int 1), (7, .int y_54), (0, .ref g0), (1, .int x1), (2, .int x2), (3, .int x3), (4, .int x4), (5, .int x5)]) hx hb dX11_sign__174 hl (by decide +kernel) rfl (fun ls hl => ?_)
                            obtain ⟨x_176, ex_176⟩ : ∃ zq : Int32, y_54 + 1 = zq := ⟨_, rfl⟩
                            have hx_176 : x_176.toInt = y_54.toInt + 1 := (iv_to ex_176).symm.trans (ad_i rfl (by decide +kernel) (by omega) (by omega))
                            refine lv_iinc (v := x_176) (lv' := [(7, .int x_176), (6, .int 1), (0, .ref g0), (1, .int x1), (2, .int x2), (3, .int x3), (4, .int x4), (5, .int x5)]) hx hb dX11_sign__176 hl (k := 1) rfl ex_176 (by decide +kernel) rfl (fun ls hl => ?_)
                            clear ex_176
                            refine lv_goto (tgt := 135) hx hb dX11_sign__179 (by decide +kernel) ?_
                            have kc_177 : (1 : Int32).toInt = 1 := by decide
                            exact ih (n - 1) (by omega) 1 x_176 v fa _ _ ls (by omega) (by decide +kernel) (by omega) ⟨rfl, rfl⟩ (my_1 hq1_cut_52 (by omega) (by omega) (by omega) (by omega)) (by omega) hVz_55 hAz_55 hRz_55 hP hD hS (by omega) (by omega) (by omega) (by omega) (lv_sub hl [1, 0, 2, 3, 4, 5, 6, 7] rfl)
                have kc_178 : (0 : Int32).toInt = 0 := by decide
                exact cut_52 61 y_45 0 v fa _ _ ls (by omega) (by omega) (by decide +kernel) ⟨rfl, rfl⟩ (my_0 hq1_cut_44 (by decide +kernel)) (by have rc : (0 : Int32).toInt = 0 := (by decide +kernel); omega) hVz_46 hAz_46 hRz_46 hP hD hS (by omega) (by omega) (by omega) (by omega) (lv_sub hl [1, 0, 2, 3, 4, 5, 6, 7] rfl)
              refine lv_aload_n hx hb dX11_sign__83 rfl (lv_at hl 0 rfl) ?_
              refine va_get (D := (dC, dI)) (ci := 11) (v := .ref (pq 9)) (C := RX11) (T := TX11) (N := 63) hx hb hts in_wsX11_sign__X11 hown hK hP 0 rfl rfl 9 (by decide +kernel) (hts (.fieldLink RX11 37 "ShipOfficeModel" "endedOn" "[I") iw_X11_sign__13) (fun _ h9 => h9) rfl dX11_sign__84 ?_
              refine lv_iload_n hx hb dX11_sign__87 rfl (lv_at hl 2 rfl) ?_
              refine va_iald hx hb hK hP 10 9 rfl rfl (vp_in_iff.mpr (by omega)) dX11_sign__88 ?_
              refine lv_topi (fun x_179 ex_179 => ?_)
              have gx_179 : x_179.toInt = (fa 9 (x2 : Int32).toNatClampNeg).toInt := iv_to ex_179
              clear ex_179
              refine lv_if_ge (tgt := 129) hx hb dX11_sign__89 (by decide +kernel) (fun c_180 => ?_) (fun c_180 => ?_)
              · have dc_180 := c_le (a := 0) (b := x_179.toInt) (by decide +kernel) rfl c_180
                refine lv_iconst (v := 0) hx hb dX11_sign__129 (by decide +kernel) ?_
                refine lv_istore (lv' := [(6, .int 0), (0, .ref g0), (1, .int x1), (2, .int x2), (3, .int x3), (4, .int x4), (5, .int x5)]) hx hb dX11_sign__130 hl (by decide +kernel) rfl (fun ls hl => ?_)
                have kc_181 : (0 : Int32).toInt = 0 := by decide
                exact cut_44 0 v fa _ _ ls (by decide +kernel) ⟨rfl, rfl⟩ (by have rc : (0 : Int32).toInt = 0 := (by decide +kernel); omega) hVz_5 hAz_5 hRz_5 hP hD hS (by omega) (by omega) (by omega) (by omega) (lv_sub hl [0, 1, 2, 3, 4, 5, 6] rfl)
              · have dc_180 := c_nle (a := 0) (b := x_179.toInt) (by decide +kernel) rfl c_180
                refine lv_aload_n hx hb dX11_sign__92 rfl (lv_at hl 0 rfl) ?_
                refine lv_iconst (v := 0) hx hb dX11_sign__93 (by decide +kernel) ?_
                refine lv_iload_n hx hb dX11_sign__94 rfl (lv_at hl 2 rfl) ?_
                have hFc : ∀ q, va_A [] H.size q → A q := pu_free hS hA
                refine va_calli (va_runV (As := [.int 0, .int x2]) (rest := []) ⟨hx, hb, hml, hown, hts⟩ (c_X11_wasTold_f l dC dI H.size g0 pq cp v fa hVz_5 hAz_5 0 x2) (cwV 2 hts gX11_sign__X11_wasTold rfl rfl rfl (by decide +kernel) ⟨(Nat.le_of_ble_eq_true rfl), (Nat.le_of_ble_eq_true rfl)⟩) (pr_V (r := (RX11, TX11, 63)) hP hK hD 0 11 rfl rfl) rfl rfl hl.1 rfl (lv_room (Nat.le_of_ble_eq_true rfl)) dX11_sign__95 ⟨(Nat.le_of_ble_eq_true rfl), (Nat.le_of_ble_eq_true rfl)⟩) hS (fun q _ h => hFc q h) hFc (fun r_183 u t H locs ht hvm w_182 hB hz1 hk1 hS => ?_)
                have hP := pu_keep hP hk1
                clear hk1 hz1 hvm hB ht hFc
                obtain ⟨hb_184, hx_185⟩ := w_182
                try rw [show (0 : Int32).toInt = 0 from (by decide +kernel)] at hx_185
                refine lv_if_ne (tgt := 129) hx hb dX11_sign__98 (by decide +kernel) (fun c_186 => ?_) (fun c_186 => ?_)
                · have dc_186 := c_ne (a := r_183.toInt) (b := 0) rfl (by decide +kernel) c_186
                  refine lv_iconst (v := 0) hx hb dX11_sign__129 (by decide +kernel) ?_
                  refine lv_istore (lv' := [(6, .int 0), (0, .ref g0), (1, .int x1), (2, .int x2), (3, .int x3), (4, .int x4), (5, .int x5)]) hx hb dX11_sign__130 hl (by decide +kernel) rfl (fun ls hl => ?_)
                  have kc_187 : (0 : Int32).toInt = 0 := by decide
                  exact cut_44 0 v fa _ _ ls (by decide +kernel) ⟨rfl, rfl⟩ (by have rc : (0 : Int32).toInt = 0 := (by decide +kernel); omega) hVz_5 hAz_5 hRz_5 hP hD hS (by omega) (by omega) (by omega) (by omega) (lv_sub hl [0, 1, 2, 3, 4, 5, 6] rfl)
                · have dc_186 := c_eq (a := r_183.toInt) (b := 0) rfl (by decide +kernel) c_186
                  refine lv_aload_n hx hb dX11_sign__101 rfl (lv_at hl 0 rfl) ?_
                  refine lv_iconst (v := 2) hx hb dX11_sign__102 (by decide +kernel) ?_
                  refine lv_iload_n hx hb dX11_sign__103 rfl (lv_at hl 2 rfl) ?_
                  have hFc : ∀ q, va_A [] H.size q → A q := pu_free hS hA
                  refine va_calli (va_runV (As := [.int 2, .int x2]) (rest := []) ⟨hx, hb, hml, hown, hts⟩ (c_X11_wasTold_f l dC dI H.size g0 pq cp v fa hVz_5 hAz_5 2 x2) (cwV 2 hts gX11_sign__X11_wasTold rfl rfl rfl (by decide +kernel) ⟨(Nat.le_of_ble_eq_true rfl), (Nat.le_of_ble_eq_true rfl)⟩) (pr_V (r := (RX11, TX11, 63)) hP hK hD 0 11 rfl rfl) rfl rfl hl.1 rfl (lv_room (Nat.le_of_ble_eq_true rfl)) dX11_sign__104 ⟨(Nat.le_of_ble_eq_true rfl), (Nat.le_of_ble_eq_true rfl)⟩) hS (fun q _ h => hFc q h) hFc (fun r_189 u t H locs ht hvm w_188 hB hz1 hk1 hS => ?_)
                  have hP := pu_keep hP hk1
                  clear hk1 hz1 hvm hB ht hFc
                  obtain ⟨hb_190, hx_191⟩ := w_188
                  try rw [show (2 : Int32).toInt = 2 from (by decide +kernel)] at hx_191
                  refine lv_if_ne (tgt := 129) hx hb dX11_sign__107 (by decide +kernel) (fun c_192 => ?_) (fun c_192 => ?_)
                  · have dc_192 := c_ne (a := r_189.toInt) (b := 0) rfl (by decide +kernel) c_192
                    refine lv_iconst (v := 0) hx hb dX11_sign__129 (by decide +kernel) ?_
                    refine lv_istore (lv' := [(6, .int 0), (0, .ref g0), (1, .int x1), (2, .int x2), (3, .int x3), (4, .int x4), (5, .int x5)]) hx hb dX11_sign__130 hl (by decide +kernel) rfl (fun ls hl => ?_)
                    have kc_193 : (0 : Int32).toInt = 0 := by decide
                    exact cut_44 0 v fa _ _ ls (by decide +kernel) ⟨rfl, rfl⟩ (by have rc : (0 : Int32).toInt = 0 := (by decide +kernel); omega) hVz_5 hAz_5 hRz_5 hP hD hS (by omega) (by omega) (by omega) (by omega) (lv_sub hl [0, 1, 2, 3, 4, 5, 6] rfl)
                  · have dc_192 := c_eq (a := r_189.toInt) (b := 0) rfl (by decide +kernel) c_192
                    refine lv_iload hx hb dX11_sign__110 (lv_at hl 5 rfl) ?_
                    refine lv_if_lt (tgt := 125) hx hb dX11_sign__112 (by decide +kernel) (fun c_194 => ?_) (fun c_194 => ?_)
                    · have dc_194 := c_lt (a := x5.toInt) (b := 0) rfl (by decide +kernel) c_194
                      refine lv_iconst (v := 1) hx hb dX11_sign__125 (by decide +kernel) ?_
                      refine lv_goto (tgt := 130) hx hb dX11_sign__126 (by decide +kernel) ?_
                      refine lv_istore (lv' := [(6, .int 1), (0, .ref g0), (1, .int x1), (2, .int x2), (3, .int x3), (4, .int x4), (5, .int x5)]) hx hb dX11_sign__130 hl (by decide +kernel) rfl (fun ls hl => ?_)
                      have kc_195 : (1 : Int32).toInt = 1 := by decide
                      exact cut_44 1 v fa _ _ ls (by decide +kernel) ⟨rfl, rfl⟩ (by have rc : (1 : Int32).toInt = 1 := (by decide +kernel); omega) hVz_5 hAz_5 hRz_5 hP hD hS (by omega) (by omega) (by omega) (by omega) (lv_sub hl [0, 1, 2, 3, 4, 5, 6] rfl)
                    · have dc_194 := c_nlt (a := x5.toInt) (b := 0) rfl (by decide +kernel) c_194
                      refine lv_aload_n hx hb dX11_sign__115 rfl (lv_at hl 0 rfl) ?_
                      refine va_get (D := (dC, dI)) (ci := 11) (v := .ref (pq 26)) (C := RX11) (T := TX11) (N := 63) hx hb hts in_wsX11_sign__X11 hown hK hP 0 rfl rfl 26 (by decide +kernel) (hts (.fieldLink RX11 88 "ShipOfficeModel" "offOn" "[I") iw_X11_sign__11) (fun _ h9 => h9) rfl dX11_sign__116 ?_
                      refine lv_iload hx hb dX11_sign__119 (lv_at hl 5 rfl) ?_
                      refine va_iald hx hb hK hP 27 26 rfl rfl (vp_in_iff.mpr (by omega)) dX11_sign__121 ?_
                      refine lv_topi (fun x_196 ex_196 => ?_)
                      have gx_196 : x_196.toInt = (fa 26 (x5 : Int32).toNatClampNeg).toInt := iv_to ex_196
                      clear ex_196
                      refine lv_if_lt (tgt := 129) hx hb dX11_sign__122 (by decide +kernel) (fun c_197 => ?_) (fun c_197 => ?_)
                      · have dc_197 := c_lt (a := x_196.toInt) (b := 0) rfl (by decide +kernel) c_197
                        refine lv_iconst (v := 0) hx hb dX11_sign__129 (by decide +kernel) ?_
                        refine lv_istore (lv' := [(6, .int 0), (0, .ref g0), (1, .int x1), (2, .int x2), (3, .int x3), (4, .int x4), (5, .int x5)]) hx hb dX11_sign__130 hl (by decide +kernel) rfl (fun ls hl => ?_)
                        have kc_198 : (0 : Int32).toInt = 0 := by decide
                        exact cut_44 0 v fa _ _ ls (by decide +kernel) ⟨rfl, rfl⟩ (by have rc : (0 : Int32).toInt = 0 := (by decide +kernel); omega) hVz_5 hAz_5 hRz_5 hP hD hS (by omega) (by omega) (by omega) (by omega) (lv_sub hl [0, 1, 2, 3, 4, 5, 6] rfl)
                      · have dc_197 := c_nlt (a := x_196.toInt) (b := 0) rfl (by decide +kernel) c_197
                        refine lv_iconst (v := 1) hx hb dX11_sign__125 (by decide +kernel) ?_
                        refine lv_goto (tgt := 130) hx hb dX11_sign__126 (by decide +kernel) ?_
                        refine lv_istore (lv' := [(6, .int 1), (0, .ref g0), (1, .int x1), (2, .int x2), (3, .int x3), (4, .int x4), (5, .int x5)]) hx hb dX11_sign__130 hl (by decide +kernel) rfl (fun ls hl => ?_)
                        have kc_199 : (1 : Int32).toInt = 1 := by decide
                        exact cut_44 1 v fa _ _ ls (by decide +kernel) ⟨rfl, rfl⟩ (by have rc : (1 : Int32).toInt = 1 := (by decide +kernel); omega) hVz_5 hAz_5 hRz_5 hP hD hS (by omega) (by omega) (by omega) (by omega) (lv_sub hl [0, 1, 2, 3, 4, 5, 6] rfl)
            · have dc_43 := c_eq (a := x_42.toInt) (b := 60) rfl (by decide +kernel) c_43
              refine lv_aload_n hx hb dX11_sign__76 rfl (lv_at hl 0 rfl) ?_
              refine lv_bipush (v := (-6)) hx hb dX11_sign__77 (by decide +kernel) ?_
              have hFc := va_free (wc := (mW g0 pq cp v fa)) hD hS hA (List.range 48) rfl
              refine va_calli (va_runV (As := [.int (-6)]) (rest := []) ⟨hx, hb, hml, hown, hts⟩ (c_X11_refuse_f l dC dI H.size g0 pq cp v fa (-6) (by unfold vp_in; decide)) (cwV 1 hts gX11_sign__X11_refuse rfl rfl rfl (by decide +kernel) ⟨(Nat.le_of_ble_eq_true rfl), (Nat.le_of_ble_eq_true rfl)⟩) (pr_V (r := (RX11, TX11, 63)) hP hK hD 0 11 rfl rfl) rfl rfl hl.1 rfl (lv_room (Nat.le_of_ble_eq_true rfl)) dX11_sign__79 ⟨(Nat.le_of_ble_eq_true rfl), (Nat.le_of_ble_eq_true rfl)⟩) hS (fun q _ h => hFc q h) hFc (fun r_201 u t H locs ht hvm w_200 hB hz1 hk1 hS => ?_)
              obtain ⟨v_202, fa_203⟩ := u
              obtain ⟨hP1, hK1, hD1⟩ := hB
              rw [ht] at hP1
              have hP : va_P (dC, dI) vwCl (mW g0 pq cp v_202 fa_203) H := hP1
              have hD : va_D A (mW g0 pq cp v_202 fa_203) := hD1.weaken (fun _ _ _ h => hFc _ h)
              clear hP1 hK1 hD1 hk1 hz1 hvm ht hFc
              obtain ⟨rfl, hs1_204⟩ := w_200
              have hVv_202 : mV v_202 := sm0_V (sm1_0 hs1_204) hVz_5
              have hAv_202 : mA fa_203 := sm0_A (sm1_0 hs1_204) hAz_5
              have g_205 : (v_202 38).toInt = (v 38).toInt := congrArg Int32.toInt (congrFun hs1_204.1 38)
              have g_206 : (v_202 39).toInt = (v 39).toInt := congrArg Int32.toInt (congrFun hs1_204.1 39)
              have g_207 : (v_202 40).toInt = (v 40).toInt := congrArg Int32.toInt (congrFun hs1_204.1 40)
              have g_208 : (v_202 43).toInt = (v 43).toInt := congrArg Int32.toInt (congrFun hs1_204.1 43)
              have hRv_202 : mX [0, 20, 21, 22, 23, 24, 25, 26, 28, 43, 45, 47, 48, 49, 50, 51, 52, 53, 54, 55, 56, 57, 58, 59, 60] v fa v_202 fa_203 := mX.st hRz_5 (mX.s0 (sm1_0 hs1_204)) (by decide +kernel)
              exact W.iret (v := (-6)) hx hb hr (fun t ht hW => ⟨⟨(-6), (v_202, fa_203), rfl, ⟨hVv_202, hAv_202, hRv_202, ⟨by have rc : ((-6) : Int32).toInt = -6 := (by decide +kernel); exact Or.inr (Or.inr (Or.inl ⟨(by first | assumption | (unfold sgK; omega)), by omega, by omega, rc⟩)), Or.inl ⟨by decide, sm2_1 hs1_204⟩⟩⟩, ⟨by rw [ht]; exact hP, va_K.moved hW.alike hK, hD⟩⟩, hS.F ht⟩) hS.2.2 dX11_sign__82
      · have dc_21 := c_nle (a := 0) (b := x4.toInt) (by decide +kernel) rfl c_21
        refine lv_aload_n hx hb dX11_sign__47 rfl (lv_at hl 0 rfl) ?_
        refine lv_bipush (v := (-4)) hx hb dX11_sign__48 (by decide +kernel) ?_
        have hFc := va_free (wc := (mW g0 pq cp v fa)) hD hS hA (List.range 48) rfl
        refine va_calli (va_runV (As := [.int (-4)]) (rest := []) ⟨hx, hb, hml, hown, hts⟩ (c_X11_refuse_f l dC dI H.size g0 pq cp v fa (-4) (by unfold vp_in; decide)) (cwV 1 hts gX11_sign__X11_refuse rfl rfl rfl (by decide +kernel) ⟨(Nat.le_of_ble_eq_true rfl), (Nat.le_of_ble_eq_true rfl)⟩) (pr_V (r := (RX11, TX11, 63)) hP hK hD 0 11 rfl rfl) rfl rfl hl.1 rfl (lv_room (Nat.le_of_ble_eq_true rfl)) dX11_sign__50 ⟨(Nat.le_of_ble_eq_true rfl), (Nat.le_of_ble_eq_true rfl)⟩) hS (fun q _ h => hFc q h) hFc (fun r_210 u t H locs ht hvm w_209 hB hz1 hk1 hS => ?_)
        obtain ⟨v_211, fa_212⟩ := u
        obtain ⟨hP1, hK1, hD1⟩ := hB
        rw [ht] at hP1
        have hP : va_P (dC, dI) vwCl (mW g0 pq cp v_211 fa_212) H := hP1
        have hD : va_D A (mW g0 pq cp v_211 fa_212) := hD1.weaken (fun _ _ _ h => hFc _ h)
        clear hP1 hK1 hD1 hk1 hz1 hvm ht hFc
        obtain ⟨rfl, hs1_213⟩ := w_209
        have hVv_211 : mV v_211 := sm0_V (sm1_0 hs1_213) hVz_5
        have hAv_211 : mA fa_212 := sm0_A (sm1_0 hs1_213) hAz_5
        have g_214 : (v_211 38).toInt = (v 38).toInt := congrArg Int32.toInt (congrFun hs1_213.1 38)
        have g_215 : (v_211 39).toInt = (v 39).toInt := congrArg Int32.toInt (congrFun hs1_213.1 39)
        have g_216 : (v_211 40).toInt = (v 40).toInt := congrArg Int32.toInt (congrFun hs1_213.1 40)
        have g_217 : (v_211 43).toInt = (v 43).toInt := congrArg Int32.toInt (congrFun hs1_213.1 43)
        have hRv_211 : mX [0, 20, 21, 22, 23, 24, 25, 26, 28, 43, 45, 47, 48, 49, 50, 51, 52, 53, 54, 55, 56, 57, 58, 59, 60] v fa v_211 fa_212 := mX.st hRz_5 (mX.s0 (sm1_0 hs1_213)) (by decide +kernel)
        exact W.iret (v := (-4)) hx hb hr (fun t ht hW => ⟨⟨(-4), (v_211, fa_212), rfl, ⟨hVv_211, hAv_211, hRv_211, ⟨by have rc : ((-4) : Int32).toInt = -4 := (by decide +kernel); exact Or.inr (Or.inl ⟨(by first | assumption | (unfold sgK; omega)), by omega, rc⟩), Or.inl ⟨by decide, sm2_1 hs1_213⟩⟩⟩, ⟨by rw [ht]; exact hP, va_K.moved hW.alike hK, hD⟩⟩, hS.F ht⟩) hS.2.2 dX11_sign__53
  have iv_218 : 0 ≤ (v 38).toInt ∧ (v 38).toInt ≤ 3000 := gV 38
  have iv_219 : 0 ≤ (v 39).toInt ∧ (v 39).toInt ≤ 40 := gV 39
  have iv_220 : 0 ≤ (v 40).toInt ∧ (v 40).toInt ≤ 20 := gV 40
  have iv_221 : 0 ≤ (v 43).toInt ∧ (v 43).toInt ≤ 60 := gV 43
  refine lv_aload_n hx hb dX11_sign__0 rfl (lv_at hl 0 rfl) ?_
  refine lv_iload_n hx hb dX11_sign__1 rfl (lv_at hl 1 rfl) ?_
  have hFc : ∀ q, va_A [] s.heap.size q → A q := pu_free hS hA
  refine va_calli (va_runV (As := [.int x1]) (rest := []) ⟨hx, hb, hml, hown, hts⟩ (c_X11_isMan l dC dI s.heap.size g0 pq cp v fa x1) (cwV 1 hts gX11_sign__X11_isMan rfl rfl rfl (by decide +kernel) ⟨(Nat.le_of_ble_eq_true rfl), (Nat.le_of_ble_eq_true rfl)⟩) (pr_V (r := (RX11, TX11, 63)) hP hK hD 0 11 rfl rfl) rfl rfl hl.1 rfl (lv_room (Nat.le_of_ble_eq_true rfl)) dX11_sign__2 ⟨(Nat.le_of_ble_eq_true rfl), (Nat.le_of_ble_eq_true rfl)⟩) hS (fun q _ h => hFc q h) hFc (fun r_223 u t H locs ht hvm w_222 hB hz1 hk1 hS => ?_)
  have hP := pu_keep hP hk1
  clear hk1 hz1 hvm hB ht hFc
  have hbr_223 : 0 ≤ r_223.toInt ∧ r_223.toInt ≤ 1 := iv_of w_222 (isI_i _ _)
  refine lv_if_eq (tgt := 31) hx hb dX11_sign__5 (by decide +kernel) (fun c_224 => ?_) (fun c_224 => ?_)
  · have dc_224 := c_eq (a := r_223.toInt) (b := 0) rfl (by decide +kernel) c_224
    have hz_225 := isI_0 (w_222.symm.trans c_224)
    refine lv_aload_n hx hb dX11_sign__31 rfl (lv_at hl 0 rfl) ?_
    refine lv_iconst (v := (-1)) hx hb dX11_sign__32 (by decide +kernel) ?_
    have hFc := va_free (wc := (mW g0 pq cp v fa)) hD hS hA (List.range 48) rfl
    refine va_calli (va_runV (As := [.int (-1)]) (rest := []) ⟨hx, hb, hml, hown, hts⟩ (c_X11_refuse_f l dC dI H.size g0 pq cp v fa (-1) (by unfold vp_in; decide)) (cwV 1 hts gX11_sign__X11_refuse rfl rfl rfl (by decide +kernel) ⟨(Nat.le_of_ble_eq_true rfl), (Nat.le_of_ble_eq_true rfl)⟩) (pr_V (r := (RX11, TX11, 63)) hP hK hD 0 11 rfl rfl) rfl rfl hl.1 rfl (lv_room (Nat.le_of_ble_eq_true rfl)) dX11_sign__33 ⟨(Nat.le_of_ble_eq_true rfl), (Nat.le_of_ble_eq_true rfl)⟩) hS (fun q _ h => hFc q h) hFc (fun r_227 u t H locs ht hvm w_226 hB hz1 hk1 hS => ?_)
    obtain ⟨v_228, fa_229⟩ := u
    obtain ⟨hP1, hK1, hD1⟩ := hB
    rw [ht] at hP1
    have hP : va_P (dC, dI) vwCl (mW g0 pq cp v_228 fa_229) H := hP1
    have hD : va_D A (mW g0 pq cp v_228 fa_229) := hD1.weaken (fun _ _ _ h => hFc _ h)
    clear hP1 hK1 hD1 hk1 hz1 hvm ht hFc
    obtain ⟨rfl, hs1_230⟩ := w_226
    have hVv_228 : mV v_228 := sm0_V (sm1_0 hs1_230) gV
    have hAv_228 : mA fa_229 := sm0_A (sm1_0 hs1_230) gA
    have g_231 : (v_228 38).toInt = (v 38).toInt := congrArg Int32.toInt (congrFun hs1_230.1 38)
    have g_232 : (v_228 39).toInt = (v 39).toInt := congrArg Int32.toInt (congrFun hs1_230.1 39)
    have g_233 : (v_228 40).toInt = (v 40).toInt := congrArg Int32.toInt (congrFun hs1_230.1 40)
    have g_234 : (v_228 43).toInt = (v 43).toInt := congrArg Int32.toInt (congrFun hs1_230.1 43)
    have hRv_228 : mX [0, 20, 21, 22, 23, 24, 25, 26, 28, 43, 45, 47, 48, 49, 50, 51, 52, 53, 54, 55, 56, 57, 58, 59, 60] v fa v_228 fa_229 := mX.st mX.rf (mX.s0 (sm1_0 hs1_230)) (by decide +kernel)
    exact W.iret (v := (-1)) hx hb hr (fun t ht hW => ⟨⟨(-1), (v_228, fa_229), rfl, ⟨hVv_228, hAv_228, hRv_228, ⟨by have rc : ((-1) : Int32).toInt = -1 := (by decide +kernel); exact Or.inl ⟨by unfold sgK; omega, rc⟩, Or.inl ⟨by decide, sm2_1 hs1_230⟩⟩⟩, ⟨by rw [ht]; exact hP, va_K.moved hW.alike hK, hD⟩⟩, hS.F ht⟩) hS.2.2 dX11_sign__36
  · have dc_224 := c_ne (a := r_223.toInt) (b := 0) rfl (by decide +kernel) c_224
    have hi_235 := isI_t w_222 (fun q => c_224 (Int32.toInt_inj.mp q))
    have khi_235 : (v 39).toInt ≤ 40 := (gV 39).2
    refine lv_aload_n hx hb dX11_sign__8 rfl (lv_at hl 0 rfl) ?_
    refine lv_iload_n hx hb dX11_sign__9 rfl (lv_at hl 2 rfl) ?_
    have hFc : ∀ q, va_A [] H.size q → A q := pu_free hS hA
    refine va_calli (va_runV (As := [.int x2]) (rest := []) ⟨hx, hb, hml, hown, hts⟩ (c_X11_isVoyage l dC dI H.size g0 pq cp v fa x2) (cwV 1 hts gX11_sign__X11_isVoyage rfl rfl rfl (by decide +kernel) ⟨(Nat.le_of_ble_eq_true rfl), (Nat.le_of_ble_eq_true rfl)⟩) (pr_V (r := (RX11, TX11, 63)) hP hK hD 0 11 rfl rfl) rfl rfl hl.1 rfl (lv_room (Nat.le_of_ble_eq_true rfl)) dX11_sign__10 ⟨(Nat.le_of_ble_eq_true rfl), (Nat.le_of_ble_eq_true rfl)⟩) hS (fun q _ h => hFc q h) hFc (fun r_237 u t H locs ht hvm w_236 hB hz1 hk1 hS => ?_)
    have hP := pu_keep hP hk1
    clear hk1 hz1 hvm hB ht hFc
    have hbr_237 : 0 ≤ r_237.toInt ∧ r_237.toInt ≤ 1 := iv_of w_236 (isI_i _ _)
    refine lv_if_eq (tgt := 31) hx hb dX11_sign__13 (by decide +kernel) (fun c_238 => ?_) (fun c_238 => ?_)
    · have dc_238 := c_eq (a := r_237.toInt) (b := 0) rfl (by decide +kernel) c_238
      have hz_239 := isI_0 (w_236.symm.trans c_238)
      refine lv_aload_n hx hb dX11_sign__31 rfl (lv_at hl 0 rfl) ?_
      refine lv_iconst (v := (-1)) hx hb dX11_sign__32 (by decide +kernel) ?_
      have hFc := va_free (wc := (mW g0 pq cp v fa)) hD hS hA (List.range 48) rfl
      refine va_calli (va_runV (As := [.int (-1)]) (rest := []) ⟨hx, hb, hml, hown, hts⟩ (c_X11_refuse_f l dC dI H.size g0 pq cp v fa (-1) (by unfold vp_in; decide)) (cwV 1 hts gX11_sign__X11_refuse rfl rfl rfl (by decide +kernel) ⟨(Nat.le_of_ble_eq_true rfl), (Nat.le_of_ble_eq_true rfl)⟩) (pr_V (r := (RX11, TX11, 63)) hP hK hD 0 11 rfl rfl) rfl rfl hl.1 rfl (lv_room (Nat.le_of_ble_eq_true rfl)) dX11_sign__33 ⟨(Nat.le_of_ble_eq_true rfl), (Nat.le_of_ble_eq_true rfl)⟩) hS (fun q _ h => hFc q h) hFc (fun r_241 u t H locs ht hvm w_240 hB hz1 hk1 hS => ?_)
      obtain ⟨v_242, fa_243⟩ := u
      obtain ⟨hP1, hK1, hD1⟩ := hB
      rw [ht] at hP1
      have hP : va_P (dC, dI) vwCl (mW g0 pq cp v_242 fa_243) H := hP1
      have hD : va_D A (mW g0 pq cp v_242 fa_243) := hD1.weaken (fun _ _ _ h => hFc _ h)
      clear hP1 hK1 hD1 hk1 hz1 hvm ht hFc
      obtain ⟨rfl, hs1_244⟩ := w_240
      have hVv_242 : mV v_242 := sm0_V (sm1_0 hs1_244) gV
      have hAv_242 : mA fa_243 := sm0_A (sm1_0 hs1_244) gA
      have g_245 : (v_242 38).toInt = (v 38).toInt := congrArg Int32.toInt (congrFun hs1_244.1 38)
      have g_246 : (v_242 39).toInt = (v 39).toInt := congrArg Int32.toInt (congrFun hs1_244.1 39)
      have g_247 : (v_242 40).toInt = (v 40).toInt := congrArg Int32.toInt (congrFun hs1_244.1 40)
      have g_248 : (v_242 43).toInt = (v 43).toInt := congrArg Int32.toInt (congrFun hs1_244.1 43)
      have hRv_242 : mX [0, 20, 21, 22, 23, 24, 25, 26, 28, 43, 45, 47, 48, 49, 50, 51, 52, 53, 54, 55, 56, 57, 58, 59, 60] v fa v_242 fa_243 := mX.st mX.rf (mX.s0 (sm1_0 hs1_244)) (by decide +kernel)
      exact W.iret (v := (-1)) hx hb hr (fun t ht hW => ⟨⟨(-1), (v_242, fa_243), rfl, ⟨hVv_242, hAv_242, hRv_242, ⟨by have rc : ((-1) : Int32).toInt = -1 := (by decide +kernel); exact Or.inl ⟨by unfold sgK; omega, rc⟩, Or.inl ⟨by decide, sm2_1 hs1_244⟩⟩⟩, ⟨by rw [ht]; exact hP, va_K.moved hW.alike hK, hD⟩⟩, hS.F ht⟩) hS.2.2 dX11_sign__36
    · have dc_238 := c_ne (a := r_237.toInt) (b := 0) rfl (by decide +kernel) c_238
      have hi_249 := isI_t w_236 (fun q => c_238 (Int32.toInt_inj.mp q))
      have khi_249 : (v 40).toInt ≤ 20 := (gV 40).2
      refine lv_iload hx hb dX11_sign__16 (lv_at hl 5 rfl) ?_
      refine lv_iconst (v := (-1)) hx hb dX11_sign__18 (by decide +kernel) ?_
      refine lv_icmp_eq (tgt := 37) hx hb dX11_sign__19 (by decide +kernel) (fun c_250 => ?_) (fun c_250 => ?_)
      · have dc_250 := c_eq (a := x5.toInt) (b := (-1)) rfl (by decide +kernel) c_250
        exact cut_1  v fa _ _ ls (by omega) (by omega) (by omega) ⟨rfl, rfl⟩ (by unfold sgK; omega) gV gA mX.rf hP hD hS (by omega) (by omega) (by omega) (by omega) (lv_sub hl [0, 1, 2, 3, 4, 5] rfl)
      · have dc_250 := c_ne (a := x5.toInt) (b := (-1)) rfl (by decide +kernel) c_250
        refine lv_aload_n hx hb dX11_sign__22 rfl (lv_at hl 0 rfl) ?_
        refine lv_iload hx hb dX11_sign__23 (lv_at hl 5 rfl) ?_
        have hFc : ∀ q, va_A [] H.size q → A q := pu_free hS hA
        refine va_calli (va_runV (As := [.int x5]) (rest := []) ⟨hx, hb, hml, hown, hts⟩ (c_X11_isAgreement l dC dI H.size g0 pq cp v fa x5) (cwV 1 hts gX11_sign__X11_isAgreement rfl rfl rfl (by decide +kernel) ⟨(Nat.le_of_ble_eq_true rfl), (Nat.le_of_ble_eq_true rfl)⟩) (pr_V (r := (RX11, TX11, 63)) hP hK hD 0 11 rfl rfl) rfl rfl hl.1 rfl (lv_room (Nat.le_of_ble_eq_true rfl)) dX11_sign__25 ⟨(Nat.le_of_ble_eq_true rfl), (Nat.le_of_ble_eq_true rfl)⟩) hS (fun q _ h => hFc q h) hFc (fun r_252 u t H locs ht hvm w_251 hB hz1 hk1 hS => ?_)
        have hP := pu_keep hP hk1
        clear hk1 hz1 hvm hB ht hFc
        have hbr_252 : 0 ≤ r_252.toInt ∧ r_252.toInt ≤ 1 := iv_of w_251 (isI_i _ _)
        refine lv_if_ne (tgt := 37) hx hb dX11_sign__28 (by decide +kernel) (fun c_253 => ?_) (fun c_253 => ?_)
        · have dc_253 := c_ne (a := r_252.toInt) (b := 0) rfl (by decide +kernel) c_253
          have hi_254 := isI_t w_251 (fun q => c_253 (Int32.toInt_inj.mp q))
          have khi_254 : (v 43).toInt ≤ 60 := (gV 43).2
          exact cut_1  v fa _ _ ls (by omega) (by omega) (by omega) ⟨rfl, rfl⟩ (by unfold sgK; omega) gV gA mX.rf hP hD hS (by omega) (by omega) (by omega) (by omega) (lv_sub hl [0, 1, 2, 3, 4, 5] rfl)
        · have dc_253 := c_eq (a := r_252.toInt) (b := 0) rfl (by decide +kernel) c_253
          have hz_255 := isI_0 (w_251.symm.trans c_253)
          refine lv_aload_n hx hb dX11_sign__31 rfl (lv_at hl 0 rfl) ?_
          refine lv_iconst (v := (-1)) hx hb dX11_sign__32 (by decide +kernel) ?_
          have hFc := va_free (wc := (mW g0 pq cp v fa)) hD hS hA (List.range 48) rfl
          refine va_calli (va_runV (As := [.int (-1)]) (rest := []) ⟨hx, hb, hml, hown, hts⟩ (c_X11_refuse_f l dC dI H.size g0 pq cp v fa (-1) (by unfold vp_in; decide)) (cwV 1 hts gX11_sign__X11_refuse rfl rfl rfl (by decide +kernel) ⟨(Nat.le_of_ble_eq_true rfl), (Nat.le_of_ble_eq_true rfl)⟩) (pr_V (r := (RX11, TX11, 63)) hP hK hD 0 11 rfl rfl) rfl rfl hl.1 rfl (lv_room (Nat.le_of_ble_eq_true rfl)) dX11_sign__33 ⟨(Nat.le_of_ble_eq_true rfl), (Nat.le_of_ble_eq_true rfl)⟩) hS (fun q _ h => hFc q h) hFc (fun r_257 u t H locs ht hvm w_256 hB hz1 hk1 hS => ?_)
          obtain ⟨v_258, fa_259⟩ := u
          obtain ⟨hP1, hK1, hD1⟩ := hB
          rw [ht] at hP1
          have hP : va_P (dC, dI) vwCl (mW g0 pq cp v_258 fa_259) H := hP1
          have hD : va_D A (mW g0 pq cp v_258 fa_259) := hD1.weaken (fun _ _ _ h => hFc _ h)
          clear hP1 hK1 hD1 hk1 hz1 hvm ht hFc
          obtain ⟨rfl, hs1_260⟩ := w_256
          have hVv_258 : mV v_258 := sm0_V (sm1_0 hs1_260) gV
          have hAv_258 : mA fa_259 := sm0_A (sm1_0 hs1_260) gA
          have g_261 : (v_258 38).toInt = (v 38).toInt := congrArg Int32.toInt (congrFun hs1_260.1 38)
          have g_262 : (v_258 39).toInt = (v 39).toInt := congrArg Int32.toInt (congrFun hs1_260.1 39)
          have g_263 : (v_258 40).toInt = (v 40).toInt := congrArg Int32.toInt (congrFun hs1_260.1 40)
          have g_264 : (v_258 43).toInt = (v 43).toInt := congrArg Int32.toInt (congrFun hs1_260.1 43)
          have hRv_258 : mX [0, 20, 21, 22, 23, 24, 25, 26, 28, 43, 45, 47, 48, 49, 50, 51, 52, 53, 54, 55, 56, 57, 58, 59, 60] v fa v_258 fa_259 := mX.st mX.rf (mX.s0 (sm1_0 hs1_260)) (by decide +kernel)
          exact W.iret (v := (-1)) hx hb hr (fun t ht hW => ⟨⟨(-1), (v_258, fa_259), rfl, ⟨hVv_258, hAv_258, hRv_258, ⟨by have rc : ((-1) : Int32).toInt = -1 := (by decide +kernel); exact Or.inl ⟨by unfold sgK; omega, rc⟩, Or.inl ⟨by decide, sm2_1 hs1_260⟩⟩⟩, ⟨by rw [ht]; exact hP, va_K.moved hW.alike hK, hD⟩⟩, hS.F ht⟩) hS.2.2 dX11_sign__36
