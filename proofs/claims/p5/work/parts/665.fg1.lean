

/-- a byte of a long -/
def byt (b : Int64) (i : Int32) : Int32 := ((b >>> ((8 * i).toInt64 &&& 63)) &&& 255).toInt32
/-- i bytes of b were laid from t on -/
def fdI (f : Nat → Int32) (b : Int64) (t i : Nat) (f1 : Nat → Int32) : Prop := ∀ j, f1 j = if t ≤ j ∧ j < t + i then byt b (nI (j - t)) else f j
theorem fd_0 {f : Nat → Int32} {b : Int64} {t i : Nat} (h : i = 0) : fdI f b t i f := fun j => (if_neg (by omega)).symm
theorem fd_s {f f1 f2 : Nat → Int32} {b : Int64} {t : Nat} {i i1 x xv x8 : Int32} (h : fdI f b t i.toNatClampNeg f1) (e : f2 = upd f1 x.toNatClampNeg xv) (hx : x.toInt = t + i.toInt) (hi : 0 ≤ i.toInt ∧ i.toInt ≤ 8) (hi1 : i1.toInt = i.toInt + 1) (e8 : x8 = 8 * i) (ev : xv = ((b >>> (x8.toInt64 &&& 63)) &&& 255).toInt32) : fdI f b t i1.toNatClampNeg f2 := by
  have n1 : i.toNatClampNeg = i.toInt.toNat := rfl
  have n2 : i1.toNatClampNeg = i1.toInt.toNat := rfl
  have n3 : x.toNatClampNeg = x.toInt.toNat := rfl
  intro j
  rw [e]
  by_cases q : j = x.toNatClampNeg
  · rw [if_pos (by omega), show upd f1 x.toNatClampNeg xv j = xv from if_pos q, ev, e8, show j - t = i.toNatClampNeg by omega, ← cn_eq hi]
    rfl
  · rw [show upd f1 x.toNatClampNeg xv j = f1 j from if_neg q, h j]
    by_cases k : t ≤ j ∧ j < t + i.toNatClampNeg
    · rw [if_pos k, if_pos (by omega)]
    · rw [if_neg k, if_neg (by omega)]
/-- what feed answers and does: t bytes ahead of it -/
def gfd (t n : Int) (b : Int64) (f : Nat → Int32) (r t1 : Int) (f1 : Nat → Int32) : Prop := (n < 1 ∧ r = -4 ∧ t1 = t ∧ f1 = f) ∨ (1 ≤ n ∧ (8 < n ∨ 60 < t + n) ∧ r = -6 ∧ t1 = t ∧ f1 = f) ∨ (1 ≤ n ∧ n ≤ 8 ∧ t + n ≤ 60 ∧ r = t + n ∧ t1 = t + n ∧ fdI f b t.toNat n.toNat f1)
theorem gfd_det {t n r r' t1 t1' : Int} {b : Int64} {f f1 g g1 : Nat → Int32} (h : gfd t n b f r t1 f1) (k : gfd t n b g r' t1' g1) (h0 : 0 ≤ t) (e : ∀ j, j < t.toNat → f j = g j) : r = r' ∧ t1 = t1' ∧ ∀ j, j < t1.toNat → f1 j = g1 j := by
  rcases h with ⟨a1, a2, a3, a4⟩ | ⟨a1, a0, a2, a3, a4⟩ | ⟨a1, a0, a5, a2, a3, a4⟩ <;> rcases k with ⟨b1, b2, b3, b4⟩ | ⟨b1, b0, b2, b3, b4⟩ | ⟨b1, b0, b5, b2, b3, b4⟩ <;> first | (exfalso; omega) | skip
  · exact ⟨by omega, by omega, fun j hj => by rw [a4, b4]; exact e j (by omega)⟩
  · exact ⟨by omega, by omega, fun j hj => by rw [a4, b4]; exact e j (by omega)⟩
  · refine ⟨by omega, by omega, fun j hj => ?_⟩
    rw [a4 j, b4 j]
    by_cases q : t.toNat ≤ j ∧ j < t.toNat + n.toNat
    · rw [if_pos q, if_pos q]
    · rw [if_neg q, if_neg q]
      exact e j (by omega)
/-- 1 for true -/
def bI (b : Bool) : Int := if b = true then 1 else 0
theorem bI_01 (b : Bool) : bI b = 0 ∨ bI b = 1 := by cases b <;> decide
/-- what act answers and does, of a text read up to q, well or not -/
def gac (now acts t p d q wl r acts1 t1 : Int) : Prop := (¬ (0 ≤ p ∧ p < 5) ∧ r = -2 ∧ acts1 = acts ∧ t1 = t) ∨ ((0 ≤ p ∧ p < 5) ∧ d < now ∧ r = -4 ∧ acts1 = acts ∧ t1 = t) ∨ ((0 ≤ p ∧ p < 5) ∧ now ≤ d ∧ (3000 < d ∨ 30 ≤ acts) ∧ r = -6 ∧ acts1 = acts ∧ t1 = t) ∨ ((0 ≤ p ∧ p < 5) ∧ now ≤ d ∧ d ≤ 3000 ∧ acts < 30 ∧ ¬ (wl = 1 ∧ t ≤ q) ∧ r = -20 - q ∧ acts1 = acts ∧ t1 = 0) ∨ ((0 ≤ p ∧ p < 5) ∧ now ≤ d ∧ d ≤ 3000 ∧ acts < 30 ∧ (wl = 1 ∧ t ≤ q) ∧ r = acts + 1 ∧ acts1 = acts + 1 ∧ t1 = 0)
theorem gac_det {now acts t p d q wl r acts1 t1 r' acts1' t1' : Int} (h : gac now acts t p d q wl r acts1 t1) (k : gac now acts t p d q wl r' acts1' t1') : r = r' ∧ acts1 = acts1' ∧ t1 = t1' := by
  unfold gac at h k
  omega
/-- behind a reading of R -/
def rdV (R : Nat × Bool × Int32) (n : Nat) (u : Nat → Int32) (r : Int32) : Prop := R.1 ≤ n ∧ (u 47).toInt = (R.1 : Int) ∧ (u 51).toInt = bI R.2.1 ∧ (R.2.1 = true → r = R.2.2)
theorem rdV_of {R : Nat × Bool × Int32} {v u : Nat → Int32} {n lev : Nat} {r : Int32} (h : pzf R v 0 n lev u r) (hn : n ≤ 60) : rdV R n u r := by
  obtain ⟨k', w, x, e, -, h2, h3, h4, -⟩ := h
  rw [e]
  refine ⟨h2, by rw [h3, nI_toInt (by omega)], ?_, fun q => ?_⟩
  · rcases h4 with ⟨rfl, h5⟩ | ⟨rfl, h5, -⟩
    · rw [h5]; show (0 : Int32).toInt = bI false; decide
    · rw [h5]; show (1 : Int32).toInt = bI true; decide
  · rcases h4 with ⟨rfl, h5⟩ | ⟨rfl, -, -, h5⟩
    · cases q
    · exact h5
set_option maxHeartbeats 4000000 in
set_option maxRecDepth 100000 in
theorem c_X11_goesThrough_f (l : Launch) (dC : Nat → ClassId) (dI : Nat → Nat → Nat) (sz : Nat) (g0 : Nat) (pq : Nat → Nat) (cp : Nat → ClassId) (v : Nat → Int32) (fa : Nat → Nat → Int32) (x1 x2 : Int32) (n : Nat) (hn : n ≤ 60) (e2 : x2 = nI n) (f : Nat → Int32) (hb0 : hbF x1 fa f n) : Met l yX11_goesThrough wsX11_goesThrough ({ frames := 19, cells := 0, slots := 0, locals := 441 }) (va_Pc [.ref g0, .int x1, .int x2] (pcW (dC, dI) (mT cp) (mW g0 pq cp v fa) sz)) (va_Qi (fun (r : Int32) (u : (Nat → Int32) × (Nat → Nat → Int32)) => (rdR v n u.1 ∧ u.2 = fa) ∧ rdV (mvS (mL fa) (cI f n) 5 0) n u.1 r) (fun u t => va_P (dC, dI) vwCl (mW g0 pq cp u.1 u.2) t.heap ∧ va_K (dC, dI) vwCl (mT cp) t ∧ va_D (va_A (mW g0 pq cp v fa) sz) (mW g0 pq cp u.1 u.2)) (va_A (mW g0 pq cp v fa) sz)) 0 0 (va_A (mW g0 pq cp v fa) sz) := by
  refine Met.ofW (cc := cX11_goesThrough) (maxL := 3) (ret := (some .int)) (by decide) rfl ?_
  intro p e s m args below meth c s₁ B hml hv
  obtain ⟨rfl, hsz, hP, hK, hD0⟩ := hv
  have hx := B.exec
  have hb := B.bytes
  have hr := B.returns
  have hts := atoms_spec (ws := wsX11_goesThrough) B.pre
  have hown : s.vm.findClass RX11 = some m.cls := findClass_of_methodNamed B.named
  have hlocks := B.notSynchronized
  subst hsz
  have hD := hD0.self (sz := s.heap.size)
  generalize hAe : va_A (mW g0 pq cp v fa) s.heap.size = A at hD ⊢
  have hA : ∀ q : Nat, s.heap.size ≤ q → A q := fun q h => by rw [← hAe]; exact Or.inr h
  have hS : va_S A s.heap s.heap [] := va_S.rf
  have hP : va_P (dC, dI) vwCl (mW g0 pq cp v fa) s.heap := hP
  have hl := lv_entry ([.ref g0, .int x1, .int x2]) (n := 3) (Nat.le_of_ble_eq_true rfl)
  rw [lg_entry_eq]
  generalize (lg_sl ([.ref g0, .int x1, .int x2]) ++ List.replicate (3 - (lg_sl ([.ref g0, .int x1, .int x2])).length) Slot.unset).toArray = ls at hl ⊢
  have hl : lv_has ls 3 [(0, .ref g0), (1, .int x1), (2, .int x2)] := hl
  refine lv_aload_n hx hb dX11_goesThrough_0 rfl (lv_at hl 0 rfl) ?_
  refine lv_iload_n hx hb dX11_goesThrough_1 rfl (lv_at hl 1 rfl) ?_
  refine va_put (D := (dC, dI)) (ci := 11) (v := .int x1) (ty := .int) (C := RX11) (T := TX11) (N := 63) hx hb hts in_wsX11_goesThrough_X11 tyX11 tyX11_ok nmX11 hown hK hP hD hS 0 rfl rfl 49 (by decide) (hts (.fieldLink RX11 216 "ShipOfficeModel" "base" "I") iw_X11_goesThrough_1) (fun _ h9 => h9) rfl (by decide +kernel) rfl rfl (Nat.le_of_ble_eq_true rfl) dX11_goesThrough_2 (fun H locs hP hD hS => ?_)
  have hP : va_P (dC, dI) vwCl (mW g0 pq cp (upd v 49 x1) fa) H := hP
  have hD : va_D A (mW g0 pq cp (upd v 49 x1) fa) := hD
  obtain ⟨z_1, ez_1⟩ : ∃ zq, zq = (upd v 49 x1) := ⟨_, rfl⟩
  rw [← ez_1] at hP hD
  refine lv_aload_n hx hb dX11_goesThrough_5 rfl (lv_at hl 0 rfl) ?_
  refine lv_iload_n hx hb dX11_goesThrough_6 rfl (lv_at hl 2 rfl) ?_
  refine va_put (D := (dC, dI)) (ci := 11) (v := .int x2) (ty := .int) (C := RX11) (T := TX11) (N := 63) hx hb hts in_wsX11_goesThrough_X11 tyX11 tyX11_ok nmX11 hown hK hP hD hS 0 rfl rfl 50 (by decide) (hts (.fieldLink RX11 213 "ShipOfficeModel" "size" "I") iw_X11_goesThrough_2) (fun _ h9 => h9) rfl (by decide +kernel) rfl rfl (Nat.le_of_ble_eq_true rfl) dX11_goesThrough_7 (fun H locs hP hD hS => ?_)
  have hP : va_P (dC, dI) vwCl (mW g0 pq cp (upd z_1 50 x2) fa) H := hP
  have hD : va_D A (mW g0 pq cp (upd z_1 50 x2) fa) := hD
  obtain ⟨z_2, ez_2⟩ : ∃ zq, zq = (upd z_1 50 x2) := ⟨_, rfl⟩
  rw [← ez_2] at hP hD
  refine lv_aload_n hx hb dX11_goesThrough_10 rfl (lv_at hl 0 rfl) ?_
  refine lv_iconst (v := 0) hx hb dX11_goesThrough_11 (by decide) ?_
  refine va_put (D := (dC, dI)) (ci := 11) (v := .int 0) (ty := .int) (C := RX11) (T := TX11) (N := 63) hx hb hts in_wsX11_goesThrough_X11 tyX11 tyX11_ok nmX11 hown hK hP hD hS 0 rfl rfl 47 (by decide) (hts (.fieldLink RX11 210 "ShipOfficeModel" "at" "I") iw_X11_goesThrough_3) (fun _ h9 => h9) rfl (by decide +kernel) rfl rfl (Nat.le_of_ble_eq_true rfl) dX11_goesThrough_12 (fun H locs hP hD hS => ?_)
  have hP : va_P (dC, dI) vwCl (mW g0 pq cp (upd z_2 47 0) fa) H := hP
  have hD : va_D A (mW g0 pq cp (upd z_2 47 0) fa) := hD
  obtain ⟨z_3, ez_3⟩ : ∃ zq, zq = (upd z_2 47 0) := ⟨_, rfl⟩
  rw [← ez_3] at hP hD
  refine lv_aload_n hx hb dX11_goesThrough_15 rfl (lv_at hl 0 rfl) ?_
  refine lv_iconst (v := 0) hx hb dX11_goesThrough_16 (by decide) ?_
  refine va_put (D := (dC, dI)) (ci := 11) (v := .int 0) (ty := .int) (C := RX11) (T := TX11) (N := 63) hx hb hts in_wsX11_goesThrough_X11 tyX11 tyX11_ok nmX11 hown hK hP hD hS 0 rfl rfl 48 (by decide) (hts (.fieldLink RX11 244 "ShipOfficeModel" "deep" "I") iw_X11_goesThrough_4) (fun _ h9 => h9) rfl (by decide +kernel) rfl rfl (Nat.le_of_ble_eq_true rfl) dX11_goesThrough_17 (fun H locs hP hD hS => ?_)
  have hP : va_P (dC, dI) vwCl (mW g0 pq cp (upd z_3 48 0) fa) H := hP
  have hD : va_D A (mW g0 pq cp (upd z_3 48 0) fa) := hD
  obtain ⟨z_4, ez_4⟩ : ∃ zq, zq = (upd z_3 48 0) := ⟨_, rfl⟩
  rw [← ez_4] at hP hD
  refine lv_aload_n hx hb dX11_goesThrough_20 rfl (lv_at hl 0 rfl) ?_
  refine lv_iconst (v := 1) hx hb dX11_goesThrough_21 (by decide) ?_
  refine va_put (D := (dC, dI)) (ci := 11) (v := .int 1) (ty := .boolean) (C := RX11) (T := TX11) (N := 63) hx hb hts in_wsX11_goesThrough_X11 tyX11 tyX11_ok nmX11 hown hK hP hD hS 0 rfl rfl 51 (by decide) (hts (.fieldLink RX11 223 "ShipOfficeModel" "isWell" "Z") iw_X11_goesThrough_5) (fun _ h9 => h9) rfl (by decide +kernel) rfl rfl (Nat.le_of_ble_eq_true rfl) dX11_goesThrough_22 (fun H locs hP hD hS => ?_)
  have hP : va_P (dC, dI) vwCl (mW g0 pq cp (upd z_4 51 1) fa) H := hP
  have hD : va_D A (mW g0 pq cp (upd z_4 51 1) fa) := hD
  obtain ⟨z_5, ez_5⟩ : ∃ zq, zq = (upd z_4 51 1) := ⟨_, rfl⟩
  rw [← ez_5] at hP hD
  refine lv_aload_n hx hb dX11_goesThrough_25 rfl (lv_at hl 0 rfl) ?_
  have hFc := va_free (wc := (mW g0 pq cp z_5 fa)) hD hS hA (List.range 48) rfl
  refine va_calli (va_runV (As := []) (rest := []) ⟨hx, hb, hml, hown, hts⟩ (c_X11_sum_0f l dC dI H.size g0 pq cp z_5 fa 0 n (Nat.zero_le n) hn (by rw [ez_5, ez_4, ez_3, ez_2, ez_1]; rfl) (by rw [ez_5, ez_4, ez_3, ez_2, ez_1]; exact e2) f (by rw [ez_5, ez_4, ez_3, ez_2, ez_1]; exact hb0) (by rw [ez_5, ez_4, ez_3, ez_2, ez_1]; rfl) (by rw [ez_5, ez_4, ez_3, ez_2, ez_1]; rfl)) (cwV 0 hts gX11_goesThrough_X11_sum rfl rfl rfl (by decide +kernel) ⟨(Nat.le_of_ble_eq_true rfl), (Nat.le_of_ble_eq_true rfl)⟩) (pr_V (r := (RX11, TX11, 63)) hP hK hD 0 11 rfl rfl) rfl rfl hl.1 rfl (lv_room (Nat.le_of_ble_eq_true rfl)) dX11_goesThrough_26 ⟨(Nat.le_of_ble_eq_true rfl), (Nat.le_of_ble_eq_true rfl)⟩) hS (fun q _ h => hFc q h) hFc (fun r_7 u t H locs ht hvm w_6 hB hz1 hk1 hS => ?_)
  obtain ⟨v_8, fa_9⟩ := u
  obtain ⟨hP1, hK1, hD1⟩ := hB
  rw [ht] at hP1
  have hP : va_P (dC, dI) vwCl (mW g0 pq cp v_8 fa_9) H := hP1
  have hD : va_D A (mW g0 pq cp v_8 fa_9) := hD1.weaken (fun _ _ _ h => hFc _ h)
  clear hP1 hK1 hD1 hk1 hz1 hvm ht hFc
  obtain ⟨hpz, ef2⟩ := w_6
  dsimp only at hpz ef2
  have hrv := rdV_of hpz hn
  obtain ⟨k2, w2, y2, -, -, hk2, ea2, wd2, sm2⟩ := hpz
  exact W.iret (v := r_7) hx hb hr (fun t ht hW => ⟨⟨r_7, (v_8, fa_9), rfl, ⟨⟨⟨k2, hk2, ea2, wd2.elim (fun h => Or.inl h.2) (fun h => Or.inr h.2.1), fun i h1 h2 h3 h4 h5 => (sm2 i h1 h2 h3).trans (by rw [ez_5, ez_4, ez_3, ez_2, ez_1]; unfold upd; rw [if_neg h3, if_neg h2, if_neg h1, if_neg h5, if_neg h4])⟩, ef2⟩, hrv⟩, ⟨by rw [ht]; exact hP, va_K.moved hW.alike hK, hD⟩⟩, hS.F ht⟩) hS.2.2 dX11_goesThrough_29
set_option maxHeartbeats 4000000 in
set_option maxRecDepth 100000 in
theorem c_X11_act_f (l : Launch) (dC : Nat → ClassId) (dI : Nat → Nat → Nat) (sz : Nat) (g0 : Nat) (pq : Nat → Nat) (cp : Nat → ClassId) (v : Nat → Int32) (fa : Nat → Nat → Int32) (gV : mV v) (gA : mA fa) (x1 : Int32) (x2 : Int32) : Met l yX11_act wsX11_act ({ frames := 20, cells := 0, slots := 0, locals := 463 }) (va_Pc [.ref g0, .int x1, .int x2] (pcW (dC, dI) (mT cp) (mW g0 pq cp v fa) sz)) (va_Qi (fun (r : Int32) (u : (Nat → Int32) × (Nat → Nat → Int32)) => mV u.1 ∧ mA u.2 ∧ mX [0, 16, 17, 18, 19, 42, 45, 46, 47, 48, 49, 50, 51, 52, 53, 54, 55, 56, 57, 58, 59, 60] v fa u.1 u.2 ∧ (gac (v 38).toInt (v 42).toInt (v 46).toInt x1.toInt x2.toInt ((mvS (mL fa) (cI (fa 44) (v 46).toNatClampNeg) 5 0).1 : Int) (bI (mvS (mL fa) (cI (fa 44) (v 46).toNatClampNeg) 5 0).2.1) r.toInt (u.1 42).toInt (u.1 46).toInt)) (fun u t => va_P (dC, dI) vwCl (mW g0 pq cp u.1 u.2) t.heap ∧ va_K (dC, dI) vwCl (mT cp) t ∧ va_D (va_A (mW g0 pq cp v fa) sz) (mW g0 pq cp u.1 u.2)) (va_A (mW g0 pq cp v fa) sz)) 0 0 (va_A (mW g0 pq cp v fa) sz) := by
  refine Met.ofW (cc := cX11_act) (maxL := 7) (ret := (some .int)) (by decide) rfl ?_
  intro p e s m args below meth c s₁ B hml hv
  obtain ⟨rfl, hsz, hP, hK, hD0⟩ := hv
  have hx := B.exec
  have hb := B.bytes
  have hr := B.returns
  have hts := atoms_spec (ws := wsX11_act) B.pre
  have hown : s.vm.findClass RX11 = some m.cls := findClass_of_methodNamed B.named
  have hlocks := B.notSynchronized
  subst hsz
  have hD := hD0.self (sz := s.heap.size)
  generalize hAe : va_A (mW g0 pq cp v fa) s.heap.size = A at hD ⊢
  have hA : ∀ q : Nat, s.heap.size ≤ q → A q := fun q h => by rw [← hAe]; exact Or.inr h
  have hS : va_S A s.heap s.heap [] := va_S.rf
  have hP : va_P (dC, dI) vwCl (mW g0 pq cp v fa) s.heap := hP
  have hl := lv_entry ([.ref g0, .int x1, .int x2]) (n := 7) (Nat.le_of_ble_eq_true rfl)
  rw [lg_entry_eq]
  generalize (lg_sl ([.ref g0, .int x1, .int x2]) ++ List.replicate (7 - (lg_sl ([.ref g0, .int x1, .int x2])).length) Slot.unset).toArray = ls at hl ⊢
  have hl : lv_has ls 7 [(0, .ref g0), (1, .int x1), (2, .int x2)] := hl
  have iv_1 : 0 ≤ (v 38).toInt ∧ (v 38).toInt ≤ 3000 := gV 38
  have iv_2 : 0 ≤ (v 42).toInt ∧ (v 42).toInt ≤ 30 := gV 42
  have iv_3 : 0 ≤ (v 46).toInt ∧ (v 46).toInt ≤ 60 := gV 46
  refine lv_iload_n hx hb dX11_act_0 rfl (lv_at hl 1 rfl) ?_
  refine lv_iconst (v := 5) hx hb dX11_act_1 (by decide) ?_
  have hFc : ∀ q, va_A [] s.heap.size q → A q := pu_free hS hA
  have hPc := hP.sub (ws' := []) [] rfl
  have hDc := hD.sub (ws' := []) [] (by decide) rfl
  have hKc := hK.sub (tys' := []) [] rfl
  refine va_calli (va_runS (As := [.int x1, .int 5]) (rest := []) ⟨hx, hb, hml, hown, hts⟩ (c_X11_isIn l dC dI s.heap.size x1 5) (va_cwS 2 hts gX11_act_X11_isIn rfl rfl rfl (by decide +kernel) ⟨(Nat.le_of_ble_eq_true rfl), (Nat.le_of_ble_eq_true rfl)⟩) (pr_S hPc hKc hDc) rfl rfl hl.1 rfl (lv_room (Nat.le_of_ble_eq_true rfl)) dX11_act_2 ⟨(Nat.le_of_ble_eq_true rfl), (Nat.le_of_ble_eq_true rfl)⟩) hS (fun q _ h => hFc q h) hFc (fun r_5 u t H locs ht hvm w_4 hB hz1 hk1 hS => ?_)
  have hP := pu_keep hP hk1
  clear hk1 hz1 hvm hB ht hFc hPc hDc hKc
  have hbr_5 : 0 ≤ r_5.toInt ∧ r_5.toInt ≤ 1 := iv_of w_4 (isI_i _ _)
  refine lv_if_ne (tgt := 15) hx hb dX11_act_5 (by decide) (fun c_6 => ?_) (fun c_6 => ?_)
  · have dc_6 := c_ne (a := r_5.toInt) (b := 0) rfl (by decide) c_6
    have hi_7 := isI_t w_4 (fun q => c_6 (Int32.toInt_inj.mp q))
    have khi_7 : (5 : Int32).toInt = 5 := by decide
    refine lv_iload_n hx hb dX11_act_15 rfl (lv_at hl 2 rfl) ?_
    refine lv_aload_n hx hb dX11_act_16 rfl (lv_at hl 0 rfl) ?_
    refine va_get (D := (dC, dI)) (ci := 11) (v := .int (v 38)) (C := RX11) (T := TX11) (N := 63) hx hb hts in_wsX11_act_X11 hown hK hP 0 rfl rfl 38 (by decide) (hts (.fieldLink RX11 171 "ShipOfficeModel" "now" "I") iw_X11_act_1) (fun _ h9 => h9) rfl dX11_act_17 ?_
    refine lv_topi (fun x_8 ex_8 => ?_)
    have hx_8 : 0 ≤ x_8.toInt ∧ x_8.toInt ≤ 3000 := iv_of ex_8 (gV 38)
    have gx_8 : x_8.toInt = (v 38).toInt := iv_to ex_8
    clear ex_8
    refine lv_icmp_ge (tgt := 30) hx hb dX11_act_20 (by decide) (fun c_9 => ?_) (fun c_9 => ?_)
    · have dc_9 := c_le (a := x_8.toInt) (b := x2.toInt) rfl rfl c_9
      refine lv_iload_n hx hb dX11_act_30 rfl (lv_at hl 2 rfl) ?_
      refine lv_sipush (v := 3000) hx hb dX11_act_31 (by decide) ?_
      refine lv_icmp_gt (tgt := 46) hx hb dX11_act_34 (by decide) (fun c_10 => ?_) (fun c_10 => ?_)
      · have dc_10 := c_lt (a := 3000) (b := x2.toInt) (by decide) rfl c_10
        refine lv_aload_n hx hb dX11_act_46 rfl (lv_at hl 0 rfl) ?_
        refine lv_bipush (v := (-6)) hx hb dX11_act_47 (by decide) ?_
        have hFc := va_free (wc := (mW g0 pq cp v fa)) hD hS hA (List.range 48) rfl
        refine va_calli (va_runV (As := [.int (-6)]) (rest := []) ⟨hx, hb, hml, hown, hts⟩ (c_X11_refuse l dC dI H.size g0 pq cp v fa (-6) (by unfold vp_in; decide)) (cwV 1 hts gX11_act_X11_refuse rfl rfl rfl (by decide +kernel) ⟨(Nat.le_of_ble_eq_true rfl), (Nat.le_of_ble_eq_true rfl)⟩) (pr_V (r := (RX11, TX11, 63)) hP hK hD 0 11 rfl rfl) rfl rfl hl.1 rfl (lv_room (Nat.le_of_ble_eq_true rfl)) dX11_act_49 ⟨(Nat.le_of_ble_eq_true rfl), (Nat.le_of_ble_eq_true rfl)⟩) hS (fun q _ h => hFc q h) hFc (fun r_12 u t H locs ht hvm w_11 hB hz1 hk1 hS => ?_)
        obtain ⟨v_13, fa_14⟩ := u
        obtain ⟨hP1, hK1, hD1⟩ := hB
        rw [ht] at hP1
        have hP : va_P (dC, dI) vwCl (mW g0 pq cp v_13 fa_14) H := hP1
        have hD : va_D A (mW g0 pq cp v_13 fa_14) := hD1.weaken (fun _ _ _ h => hFc _ h)
        clear hP1 hK1 hD1 hk1 hz1 hvm ht hFc
        obtain ⟨rfl, w_11⟩ := w_11
        have hVv_13 : mV v_13 := sm0_V w_11 gV
        have hAv_13 : mA fa_14 := sm0_A w_11 gA
        have g_15 : (v_13 38).toInt = (v 38).toInt := congrArg Int32.toInt (congrFun w_11.1 38)
        have g_16 : (v_13 42).toInt = (v 42).toInt := congrArg Int32.toInt (congrFun w_11.1 42)
        have g_17 : (v_13 46).toInt = (v 46).toInt := congrArg Int32.toInt (congrFun w_11.1 46)
        have g_18 : (v_13 47).toInt = (v 47).toInt := congrArg Int32.toInt (congrFun w_11.1 47)
        have g_19 : (v_13 51).toInt = (v 51).toInt := congrArg Int32.toInt (congrFun w_11.1 51)
        have hRv_13 : mX [0, 16, 17, 18, 19, 42, 45, 46, 47, 48, 49, 50, 51, 52, 53, 54, 55, 56, 57, 58, 59, 60] v fa v_13 fa_14 := mX.st mX.rf (mX.s0 w_11) (by decide)
        exact W.iret (v := (-6)) hx hb hr (fun t ht hW => ⟨⟨(-6), (v_13, fa_14), rfl, ⟨hVv_13, hAv_13, hRv_13, (by unfold gac; dsimp only; have n0 : (v 46).toNatClampNeg = (v 46).toInt.toNat := rfl; have h0 : ((-6) : Int32).toInt = -6 := (by decide); omega)⟩, ⟨by rw [ht]; exact hP, va_K.moved hW.alike hK, hD⟩⟩, hS.F ht⟩) hS.2.2 dX11_act_52
      · have dc_10 := c_nlt (a := 3000) (b := x2.toInt) (by decide) rfl c_10
        refine lv_aload_n hx hb dX11_act_37 rfl (lv_at hl 0 rfl) ?_
        refine va_get (D := (dC, dI)) (ci := 11) (v := .int (v 42)) (C := RX11) (T := TX11) (N := 63) hx hb hts in_wsX11_act_X11 hown hK hP 0 rfl rfl 42 (by decide) (hts (.fieldLink RX11 256 "ShipOfficeModel" "acts" "I") iw_X11_act_2) (fun _ h9 => h9) rfl dX11_act_38 ?_
        refine lv_topi (fun x_20 ex_20 => ?_)
        have hx_20 : 0 ≤ x_20.toInt ∧ x_20.toInt ≤ 30 := iv_of ex_20 (gV 42)
        have gx_20 : x_20.toInt = (v 42).toInt := iv_to ex_20
        clear ex_20
        refine lv_bipush (v := 30) hx hb dX11_act_41 (by decide) ?_
        refine lv_icmp_ne (tgt := 53) hx hb dX11_act_43 (by decide) (fun c_21 => ?_) (fun c_21 => ?_)
        · have dc_21 := c_ne (a := x_20.toInt) (b := 30) rfl (by decide) c_21
          refine lv_aload_n hx hb dX11_act_53 rfl (lv_at hl 0 rfl) ?_
          refine lv_iconst (v := (-1)) hx hb dX11_act_54 (by decide) ?_
          refine lv_aload_n hx hb dX11_act_55 rfl (lv_at hl 0 rfl) ?_
          refine va_get (D := (dC, dI)) (ci := 11) (v := .int (v 46)) (C := RX11) (T := TX11) (N := 63) hx hb hts in_wsX11_act_X11 hown hK hP 0 rfl rfl 46 (by decide) (hts (.fieldLink RX11 205 "ShipOfficeModel" "taped" "I") iw_X11_act_3) (fun _ h9 => h9) rfl dX11_act_56 ?_
          refine lv_topi (fun x_22 ex_22 => ?_)
          have hx_22 : 0 ≤ x_22.toInt ∧ x_22.toInt ≤ 60 := iv_of ex_22 (gV 46)
          have gx_22 : x_22.toInt = (v 46).toInt := iv_to ex_22
          clear ex_22
          have hFc := va_free (wc := (mW g0 pq cp v fa)) hD hS hA (List.range 48) rfl
          refine va_calli (va_runV (As := [.int (-1), .int x_22]) (rest := []) ⟨hx, hb, hml, hown, hts⟩ (c_X11_goesThrough_f l dC dI H.size g0 pq cp v fa (-1) x_22 x_22.toNatClampNeg (cn_le (n := 60) (by omega)) (cn_eq (n := 60) (by omega)) (fa 44) (Or.inl ⟨by decide, fun _ _ => rfl⟩)) (cwV 2 hts gX11_act_X11_goesThrough rfl rfl rfl (by decide +kernel) ⟨(Nat.le_of_ble_eq_true rfl), (Nat.le_of_ble_eq_true rfl)⟩) (pr_V (r := (RX11, TX11, 63)) hP hK hD 0 11 rfl rfl) rfl rfl hl.1 rfl (lv_room (Nat.le_of_ble_eq_true rfl)) dX11_act_59 ⟨(Nat.le_of_ble_eq_true rfl), (Nat.le_of_ble_eq_true rfl)⟩) hS (fun q _ h => hFc q h) hFc (fun r_24 u t H locs ht hvm w_23 hB hz1 hk1 hS => ?_)
          obtain ⟨v_25, fa_26⟩ := u
          obtain ⟨hP1, hK1, hD1⟩ := hB
          rw [ht] at hP1
          have hP : va_P (dC, dI) vwCl (mW g0 pq cp v_25 fa_26) H := hP1
          have hD : va_D A (mW g0 pq cp v_25 fa_26) := hD1.weaken (fun _ _ _ h => hFc _ h)
          clear hP1 hK1 hD1 hk1 hz1 hvm ht hFc
          obtain ⟨w_23, hrv⟩ := w_23
          dsimp only at hrv
          rw [show x_22 = v 46 from Int32.toInt_inj.mp (by omega)] at hrv
          obtain ⟨hrv0, hrv1, hrv2, -⟩ := hrv
          have hrv3 := bI_01 (mvS (mL fa) (cI (fa 44) (v 46).toNatClampNeg) 5 0).2.1
          have hrv4 : (v 46).toNatClampNeg = (v 46).toInt.toNat := rfl
          obtain ⟨hr_27, efhr_27⟩ := w_23
          dsimp only at hr_27 efhr_27
          have hVv_25 : mV v_25 := rd_V gV hr_27
          have hAfa_26 : mA fa_26 := by rw [efhr_27]; exact gA
          have hr_27 := rd_R hr_27 efhr_27
          have g_28 : (v_25 38).toInt = (v 38).toInt := congrArg Int32.toInt (hr_27.1 38 rfl)
          have g_29 : (v_25 42).toInt = (v 42).toInt := congrArg Int32.toInt (hr_27.1 42 rfl)
          have g_30 : (v_25 46).toInt = (v 46).toInt := congrArg Int32.toInt (hr_27.1 46 rfl)
          have R_31 : mX [0, 16, 17, 18, 19, 42, 45, 46, 47, 48, 49, 50, 51, 52, 53, 54, 55, 56, 57, 58, 59, 60] v fa v_25 fa_26 := mX.st mX.rf (mX.scr hr_27) (by decide)
          refine lv_istore_n (lv' := [(3, .int r_24), (0, .ref g0), (1, .int x1), (2, .int x2)]) hx hb dX11_act_62 rfl hl (by decide) rfl (fun ls hl => ?_)
          refine lv_aload_n hx hb dX11_act_63 rfl (lv_at hl 1 rfl) ?_
          refine va_get (D := (dC, dI)) (ci := 11) (v := .int (v_25 51)) (C := RX11) (T := TX11) (N := 63) hx hb hts in_wsX11_act_X11 hown hK hP 0 rfl rfl 51 (by decide) (hts (.fieldLink RX11 223 "ShipOfficeModel" "isWell" "Z") iw_X11_act_4) (fun _ h9 => h9) rfl dX11_act_64 ?_
          refine lv_topi (fun x_32 ex_32 => ?_)
          have gx_32 : x_32.toInt = (v_25 51).toInt := iv_to ex_32
          clear ex_32
          refine lv_if_eq (tgt := 85) hx hb dX11_act_67 (by decide) (fun c_33 => ?_) (fun c_33 => ?_)
          · have dc_33 := c_eq (a := x_32.toInt) (b := 0) rfl (by decide) c_33
            refine lv_iconst (v := 0) hx hb dX11_act_85 (by decide) ?_
            refine lv_istore (lv' := [(4, .int 0), (3, .int r_24), (0, .ref g0), (1, .int x1), (2, .int x2)]) hx hb dX11_act_86 hl (by decide) rfl (fun ls hl => ?_)
            refine lv_aload_n hx hb dX11_act_88 rfl (lv_at hl 2 rfl) ?_
            refine va_get (D := (dC, dI)) (ci := 11) (v := .int (v_25 46)) (C := RX11) (T := TX11) (N := 63) hx hb hts in_wsX11_act_X11 hown hK hP 0 rfl rfl 46 (by decide) (hts (.fieldLink RX11 205 "ShipOfficeModel" "taped" "I") iw_X11_act_3) (fun _ h9 => h9) rfl dX11_act_89 ?_
            refine lv_topi (fun x_34 ex_34 => ?_)
            have hx_34 : 0 ≤ x_34.toInt ∧ x_34.toInt ≤ 60 := iv_of ex_34 (hVv_25 46)
            have gx_34 : x_34.toInt = (v_25 46).toInt := iv_to ex_34
            clear ex_34
            refine lv_istore (lv' := [(5, .int x_34), (4, .int 0), (3, .int r_24), (0, .ref g0), (1, .int x1), (2, .int x2)]) hx hb dX11_act_92 hl (by decide) rfl (fun ls hl => ?_)
            refine lv_aload_n hx hb dX11_act_94 rfl (lv_at hl 3 rfl) ?_
            refine lv_iconst (v := 0) hx hb dX11_act_95 (by decide) ?_
            refine va_put (D := (dC, dI)) (ci := 11) (v := .int 0) (ty := .int) (C := RX11) (T := TX11) (N := 63) hx hb hts in_wsX11_act_X11 tyX11 tyX11_ok nmX11 hown hK hP hD hS 0 rfl rfl 46 (by decide) (hts (.fieldLink RX11 205 "ShipOfficeModel" "taped" "I") iw_X11_act_3) (fun _ h9 => h9) rfl (by decide +kernel) rfl rfl (Nat.le_of_ble_eq_true rfl) dX11_act_96 (fun H locs hP hD hS => ?_)
            have hP : va_P (dC, dI) vwCl (mW g0 pq cp (upd v_25 46 0) fa_26) H := hP
            have hD : va_D A (mW g0 pq cp (upd v_25 46 0) fa_26) := hD
            obtain ⟨z_35, ez_35⟩ : ∃ zq, zq = (upd v_25 46 0) := ⟨_, rfl⟩
            rw [← ez_35] at hP hD
            have hVz_35 : mV z_35 := by rw [ez_35]; exact mV_upd (lo := 0) (hi := 60) hVv_25 rfl rfl (by decide)
            have hRz_35 : mX [0, 16, 17, 18, 19, 42, 45, 46, 47, 48, 49, 50, 51, 52, 53, 54, 55, 56, 57, 58, 59, 60] v fa z_35 fa_26 := by rw [ez_35]; exact mX.up R_31 (by decide)
            have g_36 : (z_35 38).toInt = (v_25 38).toInt := by rw [ez_35]; exact congrArg Int32.toInt (if_neg (by decide))
            have g_37 : (z_35 42).toInt = (v_25 42).toInt := by rw [ez_35]; exact congrArg Int32.toInt (if_neg (by decide))
            have g_38 : (z_35 46).toInt = 0 := by rw [ez_35, show upd v_25 46 0 46 = 0 from if_pos rfl]; decide
            have g_39 : (z_35 47).toInt = (v_25 47).toInt := by rw [ez_35]; exact congrArg Int32.toInt (if_neg (by decide))
            have g_40 : (z_35 51).toInt = (v_25 51).toInt := by rw [ez_35]; exact congrArg Int32.toInt (if_neg (by decide))
            refine lv_iload hx hb dX11_act_99 (lv_at hl 1 rfl) ?_
            refine lv_if_ne (tgt := 112) hx hb dX11_act_101 (by decide) (fun c_41 => absurd c_41 (by decide)) (fun _ => ?_)
            refine lv_bipush (v := (-20)) hx hb dX11_act_104 (by decide) ?_
            refine lv_aload_n hx hb dX11_act_106 rfl (lv_at hl 3 rfl) ?_
            refine va_get (D := (dC, dI)) (ci := 11) (v := .int (z_35 47)) (C := RX11) (T := TX11) (N := 63) hx hb hts in_wsX11_act_X11 hown hK hP 0 rfl rfl 47 (by decide) (hts (.fieldLink RX11 210 "ShipOfficeModel" "at" "I") iw_X11_act_5) (fun _ h9 => h9) rfl dX11_act_107 ?_
            refine lv_topi (fun x_42 ex_42 => ?_)
            have hx_42 : 0 ≤ x_42.toInt ∧ x_42.toInt ≤ 60 := iv_of ex_42 (by omega)
            have gx_42 : x_42.toInt = (z_35 47).toInt := iv_to ex_42
            clear ex_42
            refine lv_isub hx hb dX11_act_110 ?_
            refine lv_topi (fun x_43 ex_43 => ?_)
            have hx_43 : x_43.toInt = (-20) - x_42.toInt := (iv_to ex_43).trans (sb_i (by decide) rfl (by omega) (by omega))
            clear ex_43
            exact W.iret (v := x_43) hx hb hr (fun t ht hW => ⟨⟨x_43, (z_35, fa_26), rfl, ⟨hVz_35, hAfa_26, hRz_35, (by unfold gac; dsimp only; have n0 : (v 46).toNatClampNeg = (v 46).toInt.toNat := rfl; omega)⟩, ⟨by rw [ht]; exact hP, va_K.moved hW.alike hK, hD⟩⟩, hS.F ht⟩) hS.2.2 dX11_act_111
          · have dc_33 := c_ne (a := x_32.toInt) (b := 0) rfl (by decide) c_33
            refine lv_aload_n hx hb dX11_act_70 rfl (lv_at hl 1 rfl) ?_
            refine va_get (D := (dC, dI)) (ci := 11) (v := .int (v_25 47)) (C := RX11) (T := TX11) (N := 63) hx hb hts in_wsX11_act_X11 hown hK hP 0 rfl rfl 47 (by decide) (hts (.fieldLink RX11 210 "ShipOfficeModel" "at" "I") iw_X11_act_5) (fun _ h9 => h9) rfl dX11_act_71 ?_
            refine lv_topi (fun x_44 ex_44 => ?_)
            have hx_44 : 0 ≤ x_44.toInt ∧ x_44.toInt ≤ 60 := iv_of ex_44 (by omega)
            have gx_44 : x_44.toInt = (v_25 47).toInt := iv_to ex_44
            clear ex_44
            refine lv_aload_n hx hb dX11_act_74 rfl (lv_at hl 1 rfl) ?_
            refine va_get (D := (dC, dI)) (ci := 11) (v := .int (v_25 46)) (C := RX11) (T := TX11) (N := 63) hx hb hts in_wsX11_act_X11 hown hK hP 0 rfl rfl 46 (by decide) (hts (.fieldLink RX11 205 "ShipOfficeModel" "taped" "I") iw_X11_act_3) (fun _ h9 => h9) rfl dX11_act_75 ?_
            refine lv_topi (fun x_45 ex_45 => ?_)
            have hx_45 : 0 ≤ x_45.toInt ∧ x_45.toInt ≤ 60 := iv_of ex_45 (hVv_25 46)
            have gx_45 : x_45.toInt = (v_25 46).toInt := iv_to ex_45
            clear ex_45
            refine lv_icmp_ne (tgt := 85) hx hb dX11_act_78 (by decide) (fun c_46 => ?_) (fun c_46 => ?_)
            · have dc_46 := c_ne (a := x_44.toInt) (b := x_45.toInt) rfl rfl c_46
              refine lv_iconst (v := 0) hx hb dX11_act_85 (by decide) ?_
              refine lv_istore (lv' := [(4, .int 0), (3, .int r_24), (0, .ref g0), (1, .int x1), (2, .int x2)]) hx hb dX11_act_86 hl (by decide) rfl (fun ls hl => ?_)
              refine lv_aload_n hx hb dX11_act_88 rfl (lv_at hl 2 rfl) ?_
              refine va_get (D := (dC, dI)) (ci := 11) (v := .int (v_25 46)) (C := RX11) (T := TX11) (N := 63) hx hb hts in_wsX11_act_X11 hown hK hP 0 rfl rfl 46 (by decide) (hts (.fieldLink RX11 205 "ShipOfficeModel" "taped" "I") iw_X11_act_3) (fun _ h9 => h9) rfl dX11_act_89 ?_
              refine lv_topi (fun x_47 ex_47 => ?_)
              have hx_47 : 0 ≤ x_47.toInt ∧ x_47.toInt ≤ 60 := iv_of ex_47 (hVv_25 46)
              have gx_47 : x_47.toInt = (v_25 46).toInt := iv_to ex_47
              clear ex_47
              refine lv_istore (lv' := [(5, .int x_47), (4, .int 0), (3, .int r_24), (0, .ref g0), (1, .int x1), (2, .int x2)]) hx hb dX11_act_92 hl (by decide) rfl (fun ls hl => ?_)
              refine lv_aload_n hx hb dX11_act_94 rfl (lv_at hl 3 rfl) ?_
              refine lv_iconst (v := 0) hx hb dX11_act_95 (by decide) ?_
              refine va_put (D := (dC, dI)) (ci := 11) (v := .int 0) (ty := .int) (C := RX11) (T := TX11) (N := 63) hx hb hts in_wsX11_act_X11 tyX11 tyX11_ok nmX11 hown hK hP hD hS 0 rfl rfl 46 (by decide) (hts (.fieldLink RX11 205 "ShipOfficeModel" "taped" "I") iw_X11_act_3) (fun _ h9 => h9) rfl (by decide +kernel) rfl rfl (Nat.le_of_ble_eq_true rfl) dX11_act_96 (fun H locs hP hD hS => ?_)
              have hP : va_P (dC, dI) vwCl (mW g0 pq cp (upd v_25 46 0) fa_26) H := hP
              have hD : va_D A (mW g0 pq cp (upd v_25 46 0) fa_26) := hD
              obtain ⟨z_48, ez_48⟩ : ∃ zq, zq = (upd v_25 46 0) := ⟨_, rfl⟩
              rw [← ez_48] at hP hD
              have hVz_48 : mV z_48 := by rw [ez_48]; exact mV_upd (lo := 0) (hi := 60) hVv_25 rfl rfl (by decide)
              have hRz_48 : mX [0, 16, 17, 18, 19, 42, 45, 46, 47, 48, 49, 50, 51, 52, 53, 54, 55, 56, 57, 58, 59, 60] v fa z_48 fa_26 := by rw [ez_48]; exact mX.up R_31 (by decide)
              have g_49 : (z_48 38).toInt = (v_25 38).toInt := by rw [ez_48]; exact congrArg Int32.toInt (if_neg (by decide))
              have g_50 : (z_48 42).toInt = (v_25 42).toInt := by rw [ez_48]; exact congrArg Int32.toInt (if_neg (by decide))
              have g_51 : (z_48 46).toInt = 0 := by rw [ez_48, show upd v_25 46 0 46 = 0 from if_pos rfl]; decide
              have g_52 : (z_48 47).toInt = (v_25 47).toInt := by rw [ez_48]; exact congrArg Int32.toInt (if_neg (by decide))
              have g_53 : (z_48 51).toInt = (v_25 51).toInt := by rw [ez_48]; exact congrArg Int32.toInt (if_neg (by decide))
              refine lv_iload hx hb dX11_act_99 (lv_at hl 1 rfl) ?_
              refine lv_if_ne (tgt := 112) hx hb dX11_act_101 (by decide) (fun c_54 => absurd c_54 (by decide)) (fun _ => ?_)
              refine lv_bipush (v := (-20)) hx hb dX11_act_104 (by decide) ?_
              refine lv_aload_n hx hb dX11_act_106 rfl (lv_at hl 3 rfl) ?_
              refine va_get (D := (dC, dI)) (ci := 11) (v := .int (z_48 47)) (C := RX11) (T := TX11) (N := 63) hx hb hts in_wsX11_act_X11 hown hK hP 0 rfl rfl 47 (by decide) (hts (.fieldLink RX11 210 "ShipOfficeModel" "at" "I") iw_X11_act_5) (fun _ h9 => h9) rfl dX11_act_107 ?_
              refine lv_topi (fun x_55 ex_55 => ?_)
              have hx_55 : 0 ≤ x_55.toInt ∧ x_55.toInt ≤ 60 := iv_of ex_55 (by omega)
              have gx_55 : x_55.toInt = (z_48 47).toInt := iv_to ex_55
              clear ex_55
              refine lv_isub hx hb dX11_act_110 ?_
              refine lv_topi (fun x_56 ex_56 => ?_)
              have hx_56 : x_56.toInt = (-20) - x_55.toInt := (iv_to ex_56).trans (sb_i (by decide) rfl (by omega) (by omega))
              clear ex_56
              exact W.iret (v := x_56) hx hb hr (fun t ht hW => ⟨⟨x_56, (z_48, fa_26), rfl, ⟨hVz_48, hAfa_26, hRz_48, (by unfold gac; dsimp only; have n0 : (v 46).toNatClampNeg = (v 46).toInt.toNat := rfl; omega)⟩, ⟨by rw [ht]; exact hP, va_K.moved hW.alike hK, hD⟩⟩, hS.F ht⟩) hS.2.2 dX11_act_111
            · have dc_46 := c_eq (a := x_44.toInt) (b := x_45.toInt) rfl rfl c_46
              refine lv_iconst (v := 1) hx hb dX11_act_81 (by decide) ?_
              refine lv_goto (tgt := 86) hx hb dX11_act_82 (by decide) ?_
              refine lv_istore (lv' := [(4, .int 1), (3, .int r_24), (0, .ref g0), (1, .int x1), (2, .int x2)]) hx hb dX11_act_86 hl (by decide) rfl (fun ls hl => ?_)
              refine lv_aload_n hx hb dX11_act_88 rfl (lv_at hl 2 rfl) ?_
              refine va_get (D := (dC, dI)) (ci := 11) (v := .int (v_25 46)) (C := RX11) (T := TX11) (N := 63) hx hb hts in_wsX11_act_X11 hown hK hP 0 rfl rfl 46 (by decide) (hts (.fieldLink RX11 205 "ShipOfficeModel" "taped" "I") iw_X11_act_3) (fun _ h9 => h9) rfl dX11_act_89 ?_
              refine lv_topi (fun x_57 ex_57 => ?_)
              have hx_57 : 0 ≤ x_57.toInt ∧ x_57.toInt ≤ 60 := iv_of ex_57 (hVv_25 46)
              have gx_57 : x_57.toInt = (v_25 46).toInt := iv_to ex_57
              clear ex_57
              refine lv_istore (lv' := [(5, .int x_57), (4, .int 1), (3, .int r_24), (0, .ref g0), (1, .int x1), (2, .int x2)]) hx hb dX11_act_92 hl (by decide) rfl (fun ls hl => ?_)
              refine lv_aload_n hx hb dX11_act_94 rfl (lv_at hl 3 rfl) ?_
              refine lv_iconst (v := 0) hx hb dX11_act_95 (by decide) ?_
              refine va_put (D := (dC, dI)) (ci := 11) (v := .int 0) (ty := .int) (C := RX11) (T := TX11) (N := 63) hx hb hts in_wsX11_act_X11 tyX11 tyX11_ok nmX11 hown hK hP hD hS 0 rfl rfl 46 (by decide) (hts (.fieldLink RX11 205 "ShipOfficeModel" "taped" "I") iw_X11_act_3) (fun _ h9 => h9) rfl (by decide +kernel) rfl rfl (Nat.le_of_ble_eq_true rfl) dX11_act_96 (fun H locs hP hD hS => ?_)
              have hP : va_P (dC, dI) vwCl (mW g0 pq cp (upd v_25 46 0) fa_26) H := hP
              have hD : va_D A (mW g0 pq cp (upd v_25 46 0) fa_26) := hD
              obtain ⟨z_58, ez_58⟩ : ∃ zq, zq = (upd v_25 46 0) := ⟨_, rfl⟩
              rw [← ez_58] at hP hD
              have hVz_58 : mV z_58 := by rw [ez_58]; exact mV_upd (lo := 0) (hi := 60) hVv_25 rfl rfl (by decide)
              have hRz_58 : mX [0, 16, 17, 18, 19, 42, 45, 46, 47, 48, 49, 50, 51, 52, 53, 54, 55, 56, 57, 58, 59, 60] v fa z_58 fa_26 := by rw [ez_58]; exact mX.up R_31 (by decide)
              have g_59 : (z_58 38).toInt = (v_25 38).toInt := by rw [ez_58]; exact congrArg Int32.toInt (if_neg (by decide))
              have g_60 : (z_58 42).toInt = (v_25 42).toInt := by rw [ez_58]; exact congrArg Int32.toInt (if_neg (by decide))
              have g_61 : (z_58 46).toInt = 0 := by rw [ez_58, show upd v_25 46 0 46 = 0 from if_pos rfl]; decide
              have g_62 : (z_58 47).toInt = (v_25 47).toInt := by rw [ez_58]; exact congrArg Int32.toInt (if_neg (by decide))
              have g_63 : (z_58 51).toInt = (v_25 51).toInt := by rw [ez_58]; exact congrArg Int32.toInt (if_neg (by decide))
              refine lv_iload hx hb dX11_act_99 (lv_at hl 1 rfl) ?_
              refine lv_if_ne (tgt := 112) hx hb dX11_act_101 (by decide) (fun _ => ?_) (fun c_64 => absurd c_64 (by decide))
              refine lv_iconst (v := 0) hx hb dX11_act_112 (by decide) ?_
              refine lv_istore (lv' := [(6, .int 0), (5, .int x_57), (4, .int 1), (3, .int r_24), (0, .ref g0), (1, .int x1), (2, .int x2)]) hx hb dX11_act_113 hl (by decide) rfl (fun ls hl => ?_)
              have cut_65 : ∀ (n : Nat) (y_66 : Int32) (z_67 : Nat → Int32) (fz_68 : Nat → Nat → Int32) (H : Heap) (locs : List Loc) (ls : Array Slot), 60 - y_66.toInt ≤ (n : Int) → (0 ≤ y_66.toInt ∧ y_66.toInt ≤ 60) → mV z_67 → mA fz_68 → mX [0, 16, 17, 18, 19, 42, 45, 46, 47, 48, 49, 50, 51, 52, 53, 54, 55, 56, 57, 58, 59, 60] v fa z_67 fz_68 → va_P (dC, dI) vwCl (mW g0 pq cp z_67 fz_68) H → va_D A (mW g0 pq cp z_67 fz_68) → va_S A s.heap H locs → (z_67 38).toInt = (z_58 38).toInt → (z_67 42).toInt = (z_58 42).toInt → (z_67 46).toInt = (z_58 46).toInt → (z_67 47).toInt = (z_58 47).toInt → (z_67 51).toInt = (z_58 51).toInt → lv_has ls 7 [(6, .int y_66), (5, .int x_57), (4, .int 1), (3, .int r_24), (0, .ref g0), (1, .int x1), (2, .int x2)] → W p l e (headSpec wsX11_act { frames := 20, cells := 0, slots := 0, locals := 463 }).room s m #[Value.ref g0, Value.int x1, Value.int x2] below meth c H locs 0 0 (MQ below (va_Qi (fun (r : Int32) (u : (Nat → Int32) × (Nat → Nat → Int32)) => mV u.1 ∧ mA u.2 ∧ mX [0, 16, 17, 18, 19, 42, 45, 46, 47, 48, 49, 50, 51, 52, 53, 54, 55, 56, 57, 58, 59, 60] v fa u.1 u.2 ∧ (gac (v 38).toInt (v 42).toInt (v 46).toInt x1.toInt x2.toInt ((mvS (mL fa) (cI (fa 44) (v 46).toNatClampNeg) 5 0).1 : Int) (bI (mvS (mL fa) (cI (fa 44) (v 46).toNatClampNeg) 5 0).2.1) r.toInt (u.1 42).toInt (u.1 46).toInt)) (fun u t => va_P (dC, dI) vwCl (mW g0 pq cp u.1 u.2) t.heap ∧ va_K (dC, dI) vwCl (mT cp) t ∧ va_D A (mW g0 pq cp u.1 u.2)) A) #[Value.ref g0, Value.int x1, Value.int x2] s 0 0 A) (F0 m 115 ls []) := by
                intro n
                induction n using Nat.strongRecOn with
                | ind n ih =>
                  intro y_66 z_67 fz_68 H locs ls hm hy_66 hVz_67 hAz_67 hRz_67 hP hD hS g_69 g_70 g_71 g_72 g_73 hl
                  refine lv_iload hx hb dX11_act_115 (lv_at hl 0 rfl) ?_
                  refine lv_iload hx hb dX11_act_117 (lv_at hl 1 rfl) ?_
                  refine lv_icmp_ge (tgt := 150) hx hb dX11_act_119 (by decide) (fun c_74 => ?_) (fun c_74 => ?_)
                  · have dc_74 := c_le (a := x_57.toInt) (b := y_66.toInt) rfl rfl c_74
                    refine lv_aload_n hx hb dX11_act_150 rfl (lv_at hl 4 rfl) ?_
                    refine va_get (D := (dC, dI)) (ci := 11) (v := .ref (pq 16)) (C := RX11) (T := TX11) (N := 63) hx hb hts in_wsX11_act_X11 hown hK hP 0 rfl rfl 16 (by decide) (hts (.fieldLink RX11 58 "ShipOfficeModel" "textSize" "[I") iw_X11_act_6) (fun _ h9 => h9) rfl dX11_act_151 ?_
                    refine lv_aload_n hx hb dX11_act_154 rfl (lv_at hl 4 rfl) ?_
                    refine va_get (D := (dC, dI)) (ci := 11) (v := .int (z_67 42)) (C := RX11) (T := TX11) (N := 63) hx hb hts in_wsX11_act_X11 hown hK hP 0 rfl rfl 42 (by decide) (hts (.fieldLink RX11 256 "ShipOfficeModel" "acts" "I") iw_X11_act_2) (fun _ h9 => h9) rfl dX11_act_155 ?_
                    refine lv_topi (fun x_75 ex_75 => ?_)
                    have hx_75 : 0 ≤ x_75.toInt ∧ x_75.toInt ≤ 30 := iv_of ex_75 (hVz_67 42)
                    have gx_75 : x_75.toInt = (z_67 42).toInt := iv_to ex_75
                    clear ex_75
                    refine lv_iload hx hb dX11_act_158 (lv_at hl 1 rfl) ?_
                    refine va_iast hx hb hK hP hD hS 17 16 rfl rfl (vp_in_iff.mpr (by omega)) dX11_act_160 (fun H locs hP hD hS => ?_)
                    have hP : va_P (dC, dI) vwCl (mW g0 pq cp z_67 (upF fz_68 16 (x_75 : Int32).toNatClampNeg x_57)) H := hP
                    have hD : va_D A (mW g0 pq cp z_67 (upF fz_68 16 (x_75 : Int32).toNatClampNeg x_57)) := hD
                    obtain ⟨fz_76, efz_76⟩ : ∃ zq, zq = (upF fz_68 16 (x_75 : Int32).toNatClampNeg x_57) := ⟨_, rfl⟩
                    rw [← efz_76] at hP hD
                    have hAfz_76 : mA fz_76 := by rw [efz_76]; exact mA_upF (lo := 0) (hi := 60) hAz_67 rfl rfl (by omega)
                    have hRfz_76 : mX [0, 16, 17, 18, 19, 42, 45, 46, 47, 48, 49, 50, 51, 52, 53, 54, 55, 56, 57, 58, 59, 60] v fa z_67 fz_76 := by rw [efz_76]; exact mX.uF hRz_67 (by decide)
                    refine lv_aload_n hx hb dX11_act_161 rfl (lv_at hl 4 rfl) ?_
                    refine va_get (D := (dC, dI)) (ci := 11) (v := .ref (pq 17)) (C := RX11) (T := TX11) (N := 63) hx hb hts in_wsX11_act_X11 hown hK hP 0 rfl rfl 17 (by decide) (hts (.fieldLink RX11 61 "ShipOfficeModel" "purpose" "[I") iw_X11_act_7) (fun _ h9 => h9) rfl dX11_act_162 ?_
                    refine lv_aload_n hx hb dX11_act_165 rfl (lv_at hl 4 rfl) ?_
                    refine va_get (D := (dC, dI)) (ci := 11) (v := .int (z_67 42)) (C := RX11) (T := TX11) (N := 63) hx hb hts in_wsX11_act_X11 hown hK hP 0 rfl rfl 42 (by decide) (hts (.fieldLink RX11 256 "ShipOfficeModel" "acts" "I") iw_X11_act_2) (fun _ h9 => h9) rfl dX11_act_166 ?_
                    refine lv_topi (fun x_77 ex_77 => ?_)
                    have hx_77 : 0 ≤ x_77.toInt ∧ x_77.toInt ≤ 30 := iv_of ex_77 (hVz_67 42)
                    have gx_77 : x_77.toInt = (z_67 42).toInt := iv_to ex_77
                    clear ex_77
                    refine lv_iload_n hx hb dX11_act_169 rfl (lv_at hl 5 rfl) ?_
                    refine va_iast hx hb hK hP hD hS 18 17 rfl rfl (vp_in_iff.mpr (by omega)) dX11_act_170 (fun H locs hP hD hS => ?_)
                    have hP : va_P (dC, dI) vwCl (mW g0 pq cp z_67 (upF fz_76 17 (x_77 : Int32).toNatClampNeg x1)) H := hP
                    have hD : va_D A (mW g0 pq cp z_67 (upF fz_76 17 (x_77 : Int32).toNatClampNeg x1)) := hD
                    obtain ⟨fz_78, efz_78⟩ : ∃ zq, zq = (upF fz_76 17 (x_77 : Int32).toNatClampNeg x1) := ⟨_, rfl⟩
                    rw [← efz_78] at hP hD
                    have hAfz_78 : mA fz_78 := by rw [efz_78]; exact mA_upF (lo := -2147483648) (hi := 2147483647) hAfz_76 rfl rfl (iv_all _)
                    have hRfz_78 : mX [0, 16, 17, 18, 19, 42, 45, 46, 47, 48, 49, 50, 51, 52, 53, 54, 55, 56, 57, 58, 59, 60] v fa z_67 fz_78 := by rw [efz_78]; exact mX.uF hRfz_76 (by decide)
                    refine lv_aload_n hx hb dX11_act_171 rfl (lv_at hl 4 rfl) ?_
                    refine va_get (D := (dC, dI)) (ci := 11) (v := .ref (pq 18)) (C := RX11) (T := TX11) (N := 63) hx hb hts in_wsX11_act_X11 hown hK hP 0 rfl rfl 18 (by decide) (hts (.fieldLink RX11 64 "ShipOfficeModel" "from" "[I") iw_X11_act_8) (fun _ h9 => h9) rfl dX11_act_172 ?_
                    refine lv_aload_n hx hb dX11_act_175 rfl (lv_at hl 4 rfl) ?_
                    refine va_get (D := (dC, dI)) (ci := 11) (v := .int (z_67 42)) (C := RX11) (T := TX11) (N := 63) hx hb hts in_wsX11_act_X11 hown hK hP 0 rfl rfl 42 (by decide) (hts (.fieldLink RX11 256 "ShipOfficeModel" "acts" "I") iw_X11_act_2) (fun _ h9 => h9) rfl dX11_act_176 ?_
                    refine lv_topi (fun x_79 ex_79 => ?_)
                    have hx_79 : 0 ≤ x_79.toInt ∧ x_79.toInt ≤ 30 := iv_of ex_79 (hVz_67 42)
                    have gx_79 : x_79.toInt = (z_67 42).toInt := iv_to ex_79
                    clear ex_79
                    refine lv_iload_n hx hb dX11_act_179 rfl (lv_at hl 6 rfl) ?_
                    refine va_iast hx hb hK hP hD hS 19 18 rfl rfl (vp_in_iff.mpr (by omega)) dX11_act_180 (fun H locs hP hD hS => ?_)
                    have hP : va_P (dC, dI) vwCl (mW g0 pq cp z_67 (upF fz_78 18 (x_79 : Int32).toNatClampNeg x2)) H := hP
                    have hD : va_D A (mW g0 pq cp z_67 (upF fz_78 18 (x_79 : Int32).toNatClampNeg x2)) := hD
                    obtain ⟨fz_80, efz_80⟩ : ∃ zq, zq = (upF fz_78 18 (x_79 : Int32).toNatClampNeg x2) := ⟨_, rfl⟩
                    rw [← efz_80] at hP hD
                    have hAfz_80 : mA fz_80 := by rw [efz_80]; exact mA_upF (lo := -2147483648) (hi := 2147483647) hAfz_78 rfl rfl (iv_all _)
                    have hRfz_80 : mX [0, 16, 17, 18, 19, 42, 45, 46, 47, 48, 49, 50, 51, 52, 53, 54, 55, 56, 57, 58, 59, 60] v fa z_67 fz_80 := by rw [efz_80]; exact mX.uF hRfz_78 (by decide)
                    refine lv_aload_n hx hb dX11_act_181 rfl (lv_at hl 4 rfl) ?_
                    refine lv_dup hx hb dX11_act_182 rfl ?_
                    refine va_get (D := (dC, dI)) (ci := 11) (v := .int (z_67 42)) (C := RX11) (T := TX11) (N := 63) hx hb hts in_wsX11_act_X11 hown hK hP 0 rfl rfl 42 (by decide) (hts (.fieldLink RX11 256 "ShipOfficeModel" "acts" "I") iw_X11_act_2) (fun _ h9 => h9) rfl dX11_act_183 ?_
                    refine lv_topi (fun x_81 ex_81 => ?_)
                    have hx_81 : 0 ≤ x_81.toInt ∧ x_81.toInt ≤ 30 := iv_of ex_81 (hVz_67 42)
                    have gx_81 : x_81.toInt = (z_67 42).toInt := iv_to ex_81
                    clear ex_81
                    refine lv_iconst (v := 1) hx hb dX11_act_186 (by decide) ?_
                    refine lv_iadd hx hb dX11_act_187 ?_
                    refine lv_topi (fun x_82 ex_82 => ?_)
                    have hx_82 : x_82.toInt = x_81.toInt + 1 := (iv_to ex_82).trans (ad_i rfl (by decide) (by omega) (by omega))
                    clear ex_82
                    refine va_put (D := (dC, dI)) (ci := 11) (v := .int x_82) (ty := .int) (C := RX11) (T := TX11) (N := 63) hx hb hts in_wsX11_act_X11 tyX11 tyX11_ok nmX11 hown hK hP hD hS 0 rfl rfl 42 (by decide) (hts (.fieldLink RX11 256 "ShipOfficeModel" "acts" "I") iw_X11_act_2) (fun _ h9 => h9) rfl (by decide +kernel) rfl rfl (Nat.le_of_ble_eq_true rfl) dX11_act_188 (fun H locs hP hD hS => ?_)
                    have hP : va_P (dC, dI) vwCl (mW g0 pq cp (upd z_67 42 x_82) fz_80) H := hP
                    have hD : va_D A (mW g0 pq cp (upd z_67 42 x_82) fz_80) := hD
                    obtain ⟨z_83, ez_83⟩ : ∃ zq, zq = (upd z_67 42 x_82) := ⟨_, rfl⟩
                    rw [← ez_83] at hP hD
                    have hVz_83 : mV z_83 := by rw [ez_83]; exact mV_upd (lo := 0) (hi := 30) hVz_67 rfl rfl (by omega)
                    have hRz_83 : mX [0, 16, 17, 18, 19, 42, 45, 46, 47, 48, 49, 50, 51, 52, 53, 54, 55, 56, 57, 58, 59, 60] v fa z_83 fz_80 := by rw [ez_83]; exact mX.up hRfz_80 (by decide)
                    have g_84 : (z_83 38).toInt = (z_67 38).toInt := by rw [ez_83]; exact congrArg Int32.toInt (if_neg (by decide))
                    have g_85 : (z_83 42).toInt = x_82.toInt := by rw [ez_83, show upd z_67 42 x_82 42 = x_82 from if_pos rfl]
                    have g_86 : (z_83 46).toInt = (z_67 46).toInt := by rw [ez_83]; exact congrArg Int32.toInt (if_neg (by decide))
                    have g_87 : (z_83 47).toInt = (z_67 47).toInt := by rw [ez_83]; exact congrArg Int32.toInt (if_neg (by decide))
                    have g_88 : (z_83 51).toInt = (z_67 51).toInt := by rw [ez_83]; exact congrArg Int32.toInt (if_neg (by decide))
                    refine lv_aload_n hx hb dX11_act_191 rfl (lv_at hl 4 rfl) ?_
                    refine va_get (D := (dC, dI)) (ci := 11) (v := .int (z_83 42)) (C := RX11) (T := TX11) (N := 63) hx hb hts in_wsX11_act_X11 hown hK hP 0 rfl rfl 42 (by decide) (hts (.fieldLink RX11 256 "ShipOfficeModel" "acts" "I") iw_X11_act_2) (fun _ h9 => h9) rfl dX11_act_192 ?_
                    refine lv_topi (fun x_89 ex_89 => ?_)
                    have hx_89 : 0 ≤ x_89.toInt ∧ x_89.toInt ≤ 30 := iv_of ex_89 (hVz_83 42)
                    have gx_89 : x_89.toInt = (z_83 42).toInt := iv_to ex_89
                    clear ex_89
                    exact W.iret (v := x_89) hx hb hr (fun t ht hW => ⟨⟨x_89, (z_83, fz_80), rfl, ⟨hVz_83, hAfz_80, hRz_83, (by unfold gac; dsimp only; have n0 : (v 46).toNatClampNeg = (v 46).toInt.toNat := rfl; omega)⟩, ⟨by rw [ht]; exact hP, va_K.moved hW.alike hK, hD⟩⟩, hS.F ht⟩) hS.2.2 dX11_act_195
                  · have dc_74 := c_nle (a := x_57.toInt) (b := y_66.toInt) rfl rfl c_74
                    refine lv_aload_n hx hb dX11_act_122 rfl (lv_at hl 4 rfl) ?_
                    refine va_get (D := (dC, dI)) (ci := 11) (v := .ref (pq 19)) (C := RX11) (T := TX11) (N := 63) hx hb hts in_wsX11_act_X11 hown hK hP 0 rfl rfl 19 (by decide) (hts (.fieldLink RX11 67 "ShipOfficeModel" "text" "[I") iw_X11_act_9) (fun _ h9 => h9) rfl dX11_act_123 ?_
                    refine lv_bipush (v := 60) hx hb dX11_act_126 (by decide) ?_
                    refine lv_aload_n hx hb dX11_act_128 rfl (lv_at hl 4 rfl) ?_
                    refine va_get (D := (dC, dI)) (ci := 11) (v := .int (z_67 42)) (C := RX11) (T := TX11) (N := 63) hx hb hts in_wsX11_act_X11 hown hK hP 0 rfl rfl 42 (by decide) (hts (.fieldLink RX11 256 "ShipOfficeModel" "acts" "I") iw_X11_act_2) (fun _ h9 => h9) rfl dX11_act_129 ?_
                    refine lv_topi (fun x_90 ex_90 => ?_)
                    have hx_90 : 0 ≤ x_90.toInt ∧ x_90.toInt ≤ 30 := iv_of ex_90 (hVz_67 42)
                    have gx_90 : x_90.toInt = (z_67 42).toInt := iv_to ex_90
                    clear ex_90
                    refine lv_imul hx hb dX11_act_132 ?_
                    refine lv_topi (fun x_91 ex_91 => ?_)
                    have hx_91 : x_91.toInt = 60 * x_90.toInt := (iv_to ex_91).trans (mu_i (by decide) rfl (by omega) (by omega))
                    clear ex_91
                    refine lv_iload hx hb dX11_act_133 (lv_at hl 0 rfl) ?_
                    refine lv_iadd hx hb dX11_act_135 ?_
                    refine lv_topi (fun x_92 ex_92 => ?_)
                    have hx_92 : x_92.toInt = x_91.toInt + y_66.toInt := (iv_to ex_92).trans (ad_i rfl rfl (by omega) (by omega))
                    clear ex_92
                    refine lv_aload_n hx hb dX11_act_136 rfl (lv_at hl 4 rfl) ?_
                    refine va_get (D := (dC, dI)) (ci := 11) (v := .ref (pq 44)) (C := RX11) (T := TX11) (N := 63) hx hb hts in_wsX11_act_X11 hown hK hP 0 rfl rfl 44 (by decide) (hts (.fieldLink RX11 125 "ShipOfficeModel" "tape" "[I") iw_X11_act_10) (fun _ h9 => h9) rfl dX11_act_137 ?_
                    refine lv_iload hx hb dX11_act_140 (lv_at hl 0 rfl) ?_
                    refine va_iald hx hb hK hP 39 38 rfl rfl (vp_in_iff.mpr (by omega)) dX11_act_142 ?_
                    refine lv_topi (fun x_93 ex_93 => ?_)
                    clear ex_93
                    refine va_iast hx hb hK hP hD hS 20 19 rfl rfl (vp_in_iff.mpr (by omega)) dX11_act_143 (fun H locs hP hD hS => ?_)
                    have hP : va_P (dC, dI) vwCl (mW g0 pq cp z_67 (upF fz_68 19 (x_92 : Int32).toNatClampNeg x_93)) H := hP
                    have hD : va_D A (mW g0 pq cp z_67 (upF fz_68 19 (x_92 : Int32).toNatClampNeg x_93)) := hD
                    obtain ⟨fz_94, efz_94⟩ : ∃ zq, zq = (upF fz_68 19 (x_92 : Int32).toNatClampNeg x_93) := ⟨_, rfl⟩
                    rw [← efz_94] at hP hD
                    have hAfz_94 : mA fz_94 := by rw [efz_94]; exact mA_upF (lo := -2147483648) (hi := 2147483647) hAz_67 rfl rfl (iv_all _)
                    have hRfz_94 : mX [0, 16, 17, 18, 19, 42, 45, 46, 47, 48, 49, 50, 51, 52, 53, 54, 55, 56, 57, 58, 59, 60] v fa z_67 fz_94 := by rw [efz_94]; exact mX.uF hRz_67 (by decide)
                    obtain ⟨x_95, ex_95⟩ : ∃ zq : Int32, y_66 + 1 = zq := ⟨_, rfl⟩
                    have hx_95 : x_95.toInt = y_66.toInt + 1 := (iv_to ex_95).symm.trans (ad_i rfl (by decide) (by omega) (by omega))
                    refine lv_iinc (v := x_95) (lv' := [(6, .int x_95), (5, .int x_57), (4, .int 1), (3, .int r_24), (0, .ref g0), (1, .int x1), (2, .int x2)]) hx hb dX11_act_144 hl (k := 0) rfl ex_95 (by decide) rfl (fun ls hl => ?_)
                    clear ex_95
                    refine lv_goto (tgt := 115) hx hb dX11_act_147 (by decide) ?_
                    exact ih (n - 1) (by omega) x_95 z_67 fz_94 _ _ ls (by omega) (by omega) hVz_67 hAfz_94 hRfz_94 hP hD hS (by omega) (by omega) (by omega) (by omega) (by omega) (lv_sub hl [0, 1, 2, 3, 4, 5, 6] rfl)
              have kc_96 : (0 : Int32).toInt = 0 := by decide
              exact cut_65 61 0 z_58 fa_26 _ _ ls (by omega) (by decide) hVz_58 hAfa_26 hRz_58 hP hD hS (by omega) (by omega) (by omega) (by omega) (by omega) (lv_sub hl [0, 1, 2, 3, 4, 5, 6] rfl)
        · have dc_21 := c_eq (a := x_20.toInt) (b := 30) rfl (by decide) c_21
          refine lv_aload_n hx hb dX11_act_46 rfl (lv_at hl 0 rfl) ?_
          refine lv_bipush (v := (-6)) hx hb dX11_act_47 (by decide) ?_
          have hFc := va_free (wc := (mW g0 pq cp v fa)) hD hS hA (List.range 48) rfl
          refine va_calli (va_runV (As := [.int (-6)]) (rest := []) ⟨hx, hb, hml, hown, hts⟩ (c_X11_refuse l dC dI H.size g0 pq cp v fa (-6) (by unfold vp_in; decide)) (cwV 1 hts gX11_act_X11_refuse rfl rfl rfl (by decide +kernel) ⟨(Nat.le_of_ble_eq_true rfl), (Nat.le_of_ble_eq_true rfl)⟩) (pr_V (r := (RX11, TX11, 63)) hP hK hD 0 11 rfl rfl) rfl rfl hl.1 rfl (lv_room (Nat.le_of_ble_eq_true rfl)) dX11_act_49 ⟨(Nat.le_of_ble_eq_true rfl), (Nat.le_of_ble_eq_true rfl)⟩) hS (fun q _ h => hFc q h) hFc (fun r_98 u t H locs ht hvm w_97 hB hz1 hk1 hS => ?_)
          obtain ⟨v_99, fa_100⟩ := u
          obtain ⟨hP1, hK1, hD1⟩ := hB
          rw [ht] at hP1
          have hP : va_P (dC, dI) vwCl (mW g0 pq cp v_99 fa_100) H := hP1
          have hD : va_D A (mW g0 pq cp v_99 fa_100) := hD1.weaken (fun _ _ _ h => hFc _ h)
          clear hP1 hK1 hD1 hk1 hz1 hvm ht hFc
          obtain ⟨rfl, w_97⟩ := w_97
          have hVv_99 : mV v_99 := sm0_V w_97 gV
          have hAv_99 : mA fa_100 := sm0_A w_97 gA
          have g_101 : (v_99 38).toInt = (v 38).toInt := congrArg Int32.toInt (congrFun w_97.1 38)
          have g_102 : (v_99 42).toInt = (v 42).toInt := congrArg Int32.toInt (congrFun w_97.1 42)
          have g_103 : (v_99 46).toInt = (v 46).toInt := congrArg Int32.toInt (congrFun w_97.1 46)
          have g_104 : (v_99 47).toInt = (v 47).toInt := congrArg Int32.toInt (congrFun w_97.1 47)
          have g_105 : (v_99 51).toInt = (v 51).toInt := congrArg Int32.toInt (congrFun w_97.1 51)
          have hRv_99 : mX [0, 16, 17, 18, 19, 42, 45, 46, 47, 48, 49, 50, 51, 52, 53, 54, 55, 56, 57, 58, 59, 60] v fa v_99 fa_100 := mX.st mX.rf (mX.s0 w_97) (by decide)
          exact W.iret (v := (-6)) hx hb hr (fun t ht hW => ⟨⟨(-6), (v_99, fa_100), rfl, ⟨hVv_99, hAv_99, hRv_99, (by unfold gac; dsimp only; have n0 : (v 46).toNatClampNeg = (v 46).toInt.toNat := rfl; have h0 : ((-6) : Int32).toInt = -6 := (by decide); omega)⟩, ⟨by rw [ht]; exact hP, va_K.moved hW.alike hK, hD⟩⟩, hS.F ht⟩) hS.2.2 dX11_act_52
    · have dc_9 := c_nle (a := x_8.toInt) (b := x2.toInt) rfl rfl c_9
      refine lv_aload_n hx hb dX11_act_23 rfl (lv_at hl 0 rfl) ?_
      refine lv_bipush (v := (-4)) hx hb dX11_act_24 (by decide) ?_
      have hFc := va_free (wc := (mW g0 pq cp v fa)) hD hS hA (List.range 48) rfl
      refine va_calli (va_runV (As := [.int (-4)]) (rest := []) ⟨hx, hb, hml, hown, hts⟩ (c_X11_refuse l dC dI H.size g0 pq cp v fa (-4) (by unfold vp_in; decide)) (cwV 1 hts gX11_act_X11_refuse rfl rfl rfl (by decide +kernel) ⟨(Nat.le_of_ble_eq_true rfl), (Nat.le_of_ble_eq_true rfl)⟩) (pr_V (r := (RX11, TX11, 63)) hP hK hD 0 11 rfl rfl) rfl rfl hl.1 rfl (lv_room (Nat.le_of_ble_eq_true rfl)) dX11_act_26 ⟨(Nat.le_of_ble_eq_true rfl), (Nat.le_of_ble_eq_true rfl)⟩) hS (fun q _ h => hFc q h) hFc (fun r_107 u t H locs ht hvm w_106 hB hz1 hk1 hS => ?_)
      obtain ⟨v_108, fa_109⟩ := u
      obtain ⟨hP1, hK1, hD1⟩ := hB
      rw [ht] at hP1
      have hP : va_P (dC, dI) vwCl (mW g0 pq cp v_108 fa_109) H := hP1
      have hD : va_D A (mW g0 pq cp v_108 fa_109) := hD1.weaken (fun _ _ _ h => hFc _ h)
      clear hP1 hK1 hD1 hk1 hz1 hvm ht hFc
      obtain ⟨rfl, w_106⟩ := w_106
      have hVv_108 : mV v_108 := sm0_V w_106 gV
      have hAv_108 : mA fa_109 := sm0_A w_106 gA
      have g_110 : (v_108 38).toInt = (v 38).toInt := congrArg Int32.toInt (congrFun w_106.1 38)
      have g_111 : (v_108 42).toInt = (v 42).toInt := congrArg Int32.toInt (congrFun w_106.1 42)
      have g_112 : (v_108 46).toInt = (v 46).toInt := congrArg Int32.toInt (congrFun w_106.1 46)
      have g_113 : (v_108 47).toInt = (v 47).toInt := congrArg Int32.toInt (congrFun w_106.1 47)
      have g_114 : (v_108 51).toInt = (v 51).toInt := congrArg Int32.toInt (congrFun w_106.1 51)
      have hRv_108 : mX [0, 16, 17, 18, 19, 42, 45, 46, 47, 48, 49, 50, 51, 52, 53, 54, 55, 56, 57, 58, 59, 60] v fa v_108 fa_109 := mX.st mX.rf (mX.s0 w_106) (by decide)
      exact W.iret (v := (-4)) hx hb hr (fun t ht hW => ⟨⟨(-4), (v_108, fa_109), rfl, ⟨hVv_108, hAv_108, hRv_108, (by unfold gac; dsimp only; have n0 : (v 46).toNatClampNeg = (v 46).toInt.toNat := rfl; have h0 : ((-4) : Int32).toInt = -4 := (by decide); omega)⟩, ⟨by rw [ht]; exact hP, va_K.moved hW.alike hK, hD⟩⟩, hS.F ht⟩) hS.2.2 dX11_act_29
  · have dc_6 := c_eq (a := r_5.toInt) (b := 0) rfl (by decide) c_6
    have hz_115 := isI_0 (w_4.symm.trans c_6)
    have kc_116 : (5 : Int32).toInt = 5 := by decide
    refine lv_aload_n hx hb dX11_act_8 rfl (lv_at hl 0 rfl) ?_
    refine lv_bipush (v := (-2)) hx hb dX11_act_9 (by decide) ?_
    have hFc := va_free (wc := (mW g0 pq cp v fa)) hD hS hA (List.range 48) rfl
    refine va_calli (va_runV (As := [.int (-2)]) (rest := []) ⟨hx, hb, hml, hown, hts⟩ (c_X11_refuse l dC dI H.size g0 pq cp v fa (-2) (by unfold vp_in; decide)) (cwV 1 hts gX11_act_X11_refuse rfl rfl rfl (by decide +kernel) ⟨(Nat.le_of_ble_eq_true rfl), (Nat.le_of_ble_eq_true rfl)⟩) (pr_V (r := (RX11, TX11, 63)) hP hK hD 0 11 rfl rfl) rfl rfl hl.1 rfl (lv_room (Nat.le_of_ble_eq_true rfl)) dX11_act_11 ⟨(Nat.le_of_ble_eq_true rfl), (Nat.le_of_ble_eq_true rfl)⟩) hS (fun q _ h => hFc q h) hFc (fun r_118 u t H locs ht hvm w_117 hB hz1 hk1 hS => ?_)
    obtain ⟨v_119, fa_120⟩ := u
    obtain ⟨hP1, hK1, hD1⟩ := hB
    rw [ht] at hP1
    have hP : va_P (dC, dI) vwCl (mW g0 pq cp v_119 fa_120) H := hP1
    have hD : va_D A (mW g0 pq cp v_119 fa_120) := hD1.weaken (fun _ _ _ h => hFc _ h)
    clear hP1 hK1 hD1 hk1 hz1 hvm ht hFc
    obtain ⟨rfl, w_117⟩ := w_117
    have hVv_119 : mV v_119 := sm0_V w_117 gV
    have hAv_119 : mA fa_120 := sm0_A w_117 gA
    have g_121 : (v_119 38).toInt = (v 38).toInt := congrArg Int32.toInt (congrFun w_117.1 38)
    have g_122 : (v_119 42).toInt = (v 42).toInt := congrArg Int32.toInt (congrFun w_117.1 42)
    have g_123 : (v_119 46).toInt = (v 46).toInt := congrArg Int32.toInt (congrFun w_117.1 46)
    have g_124 : (v_119 47).toInt = (v 47).toInt := congrArg Int32.toInt (congrFun w_117.1 47)
    have g_125 : (v_119 51).toInt = (v 51).toInt := congrArg Int32.toInt (congrFun w_117.1 51)
    have hRv_119 : mX [0, 16, 17, 18, 19, 42, 45, 46, 47, 48, 49, 50, 51, 52, 53, 54, 55, 56, 57, 58, 59, 60] v fa v_119 fa_120 := mX.st mX.rf (mX.s0 w_117) (by decide)
    exact W.iret (v := (-2)) hx hb hr (fun t ht hW => ⟨⟨(-2), (v_119, fa_120), rfl, ⟨hVv_119, hAv_119, hRv_119, (by unfold gac; dsimp only; have n0 : (v 46).toNatClampNeg = (v 46).toInt.toNat := rfl; have h0 : ((-2) : Int32).toInt = -2 := (by decide); omega)⟩, ⟨by rw [ht]; exact hP, va_K.moved hW.alike hK, hD⟩⟩, hS.F ht⟩) hS.2.2 dX11_act_14
set_option maxHeartbeats 4000000 in
set_option maxRecDepth 100000 in
theorem c_X11_feed_f (l : Launch) (dC : Nat → ClassId) (dI : Nat → Nat → Nat) (sz : Nat) (g0 : Nat) (pq : Nat → Nat) (cp : Nat → ClassId) (v : Nat → Int32) (fa : Nat → Nat → Int32) (gV : mV v) (gA : mA fa) (x1 : Int32) (x2 : Int64) : Met l yX11_feed wsX11_feed ({ frames := 1, cells := 0, slots := 0, locals := 21 }) (va_Pc [.ref g0, .int x1, .long x2] (pcW (dC, dI) (mT cp) (mW g0 pq cp v fa) sz)) (va_Qi (fun (r : Int32) (u : (Nat → Int32) × (Nat → Nat → Int32)) => mV u.1 ∧ mA u.2 ∧ mX [0, 44, 46] v fa u.1 u.2 ∧ (gfd (v 46).toInt x1.toInt x2 (fa 44) r.toInt (u.1 46).toInt (u.2 44))) (fun u t => va_P (dC, dI) vwCl (mW g0 pq cp u.1 u.2) t.heap ∧ va_K (dC, dI) vwCl (mT cp) t ∧ va_D (va_A (mW g0 pq cp v fa) sz) (mW g0 pq cp u.1 u.2)) (va_A (mW g0 pq cp v fa) sz)) 0 0 (va_A (mW g0 pq cp v fa) sz) := by
  refine Met.ofW (cc := cX11_feed) (maxL := 5) (ret := (some .int)) (by decide) rfl ?_
  intro p e s m args below meth c s₁ B hml hv
  obtain ⟨rfl, hsz, hP, hK, hD0⟩ := hv
  have hx := B.exec
  have hb := B.bytes
  have hr := B.returns
  have hts := atoms_spec (ws := wsX11_feed) B.pre
  have hown : s.vm.findClass RX11 = some m.cls := findClass_of_methodNamed B.named
  have hlocks := B.notSynchronized
  subst hsz
  have hD := hD0.self (sz := s.heap.size)
  generalize hAe : va_A (mW g0 pq cp v fa) s.heap.size = A at hD ⊢
  have hA : ∀ q : Nat, s.heap.size ≤ q → A q := fun q h => by rw [← hAe]; exact Or.inr h
  have hS : va_S A s.heap s.heap [] := va_S.rf
  have hP : va_P (dC, dI) vwCl (mW g0 pq cp v fa) s.heap := hP
  have hl := lv_entry ([.ref g0, .int x1, .long x2]) (n := 5) (Nat.le_of_ble_eq_true rfl)
  rw [lg_entry_eq]
  generalize (lg_sl ([.ref g0, .int x1, .long x2]) ++ List.replicate (5 - (lg_sl ([.ref g0, .int x1, .long x2])).length) Slot.unset).toArray = ls at hl ⊢
  have hl : lv_has ls 5 [(0, .ref g0), (1, .int x1), (2, .long x2)] := hl
  have iv_1 : 0 ≤ (v 46).toInt ∧ (v 46).toInt ≤ 60 := gV 46
  refine lv_iload_n hx hb dX11_feed_0 rfl (lv_at hl 1 rfl) ?_
  refine lv_iconst (v := 1) hx hb dX11_feed_1 (by decide) ?_
  refine lv_icmp_ge (tgt := 12) hx hb dX11_feed_2 (by decide) (fun c_2 => ?_) (fun c_2 => ?_)
  · have dc_2 := c_le (a := 1) (b := x1.toInt) (by decide) rfl c_2
    refine lv_iload_n hx hb dX11_feed_12 rfl (lv_at hl 1 rfl) ?_
    refine lv_bipush (v := 8) hx hb dX11_feed_13 (by decide) ?_
    refine lv_icmp_gt (tgt := 29) hx hb dX11_feed_15 (by decide) (fun c_3 => ?_) (fun c_3 => ?_)
    · have dc_3 := c_lt (a := 8) (b := x1.toInt) (by decide) rfl c_3
      refine lv_aload_n hx hb dX11_feed_29 rfl (lv_at hl 0 rfl) ?_
      refine lv_bipush (v := (-6)) hx hb dX11_feed_30 (by decide) ?_
      have hFc := va_free (wc := (mW g0 pq cp v fa)) hD hS hA (List.range 48) rfl
      refine va_calli (va_runV (As := [.int (-6)]) (rest := []) ⟨hx, hb, hml, hown, hts⟩ (c_X11_refuse l dC dI s.heap.size g0 pq cp v fa (-6) (by unfold vp_in; decide)) (cwV 1 hts gX11_feed_X11_refuse rfl rfl rfl (by decide +kernel) ⟨(Nat.le_of_ble_eq_true rfl), (Nat.le_of_ble_eq_true rfl)⟩) (pr_V (r := (RX11, TX11, 63)) hP hK hD 0 11 rfl rfl) rfl rfl hl.1 rfl (lv_room (Nat.le_of_ble_eq_true rfl)) dX11_feed_32 ⟨(Nat.le_of_ble_eq_true rfl), (Nat.le_of_ble_eq_true rfl)⟩) hS (fun q _ h => hFc q h) hFc (fun r_5 u t H locs ht hvm w_4 hB hz1 hk1 hS => ?_)
      obtain ⟨v_6, fa_7⟩ := u
      obtain ⟨hP1, hK1, hD1⟩ := hB
      rw [ht] at hP1
      have hP : va_P (dC, dI) vwCl (mW g0 pq cp v_6 fa_7) H := hP1
      have hD : va_D A (mW g0 pq cp v_6 fa_7) := hD1.weaken (fun _ _ _ h => hFc _ h)
      clear hP1 hK1 hD1 hk1 hz1 hvm ht hFc
      obtain ⟨rfl, w_4⟩ := w_4
      have hVv_6 : mV v_6 := sm0_V w_4 gV
      have hAv_6 : mA fa_7 := sm0_A w_4 gA
      have g_8 : (v_6 46).toInt = (v 46).toInt := congrArg Int32.toInt (congrFun w_4.1 46)
      have hRv_6 : mX [0, 44, 46] v fa v_6 fa_7 := mX.st mX.rf (mX.s0 w_4) (by decide)
      exact W.iret (v := (-6)) hx hb hr (fun t ht hW => ⟨⟨(-6), (v_6, fa_7), rfl, ⟨hVv_6, hAv_6, hRv_6, (by unfold gfd; dsimp only; have e1 := w_4.2 44 (by decide); dsimp only at e1; rw [e1]; have h0 : ((-6) : Int32).toInt = -6 := (by decide); first | exact Or.inl ⟨by omega, by omega, by omega, rfl⟩ | exact Or.inr (Or.inl ⟨by omega, by omega, by omega, by omega, rfl⟩))⟩, ⟨by rw [ht]; exact hP, va_K.moved hW.alike hK, hD⟩⟩, hS.F ht⟩) hS.2.2 dX11_feed_35
    · have dc_3 := c_nlt (a := 8) (b := x1.toInt) (by decide) rfl c_3
      refine lv_aload_n hx hb dX11_feed_18 rfl (lv_at hl 0 rfl) ?_
      refine va_get (D := (dC, dI)) (ci := 11) (v := .int (v 46)) (C := RX11) (T := TX11) (N := 63) hx hb hts in_wsX11_feed_X11 hown hK hP 0 rfl rfl 46 (by decide) (hts (.fieldLink RX11 205 "ShipOfficeModel" "taped" "I") iw_X11_feed_1) (fun _ h9 => h9) rfl dX11_feed_19 ?_
      refine lv_topi (fun x_9 ex_9 => ?_)
      have hx_9 : 0 ≤ x_9.toInt ∧ x_9.toInt ≤ 60 := iv_of ex_9 (gV 46)
      have gx_9 : x_9.toInt = (v 46).toInt := iv_to ex_9
      clear ex_9
      refine lv_iload_n hx hb dX11_feed_22 rfl (lv_at hl 1 rfl) ?_
      refine lv_iadd hx hb dX11_feed_23 ?_
      refine lv_topi (fun x_10 ex_10 => ?_)
      have hx_10 : x_10.toInt = x_9.toInt + x1.toInt := (iv_to ex_10).trans (ad_i rfl rfl (by omega) (by omega))
      refine lv_bipush (v := 60) hx hb dX11_feed_24 (by decide) ?_
      refine lv_icmp_le (tgt := 36) hx hb dX11_feed_26 (by decide) (fun c_11 => ?_) (fun c_11 => ?_)
      · have dc_11 := c_le (a := x_10.toInt) (b := 60) rfl (by decide) c_11
        refine lv_iconst (v := 0) hx hb dX11_feed_36 (by decide) ?_
        refine lv_istore (lv' := [(4, .int 0), (0, .ref g0), (1, .int x1), (2, .long x2)]) hx hb dX11_feed_37 hl (by decide) rfl (fun ls hl => ?_)
        have cut_12 : ∀ (n : Nat) (y_13 : Int32) (z_14 : Nat → Int32) (fz_15 : Nat → Nat → Int32) (H : Heap) (locs : List Loc) (ls : Array Slot), 8 - y_13.toInt ≤ (n : Int) → (0 ≤ y_13.toInt ∧ y_13.toInt ≤ 8) → ((z_14 46).toInt = (v 46).toInt + y_13.toInt ∧ y_13.toInt ≤ x1.toInt) → fdI (fa 44) x2 (v 46).toNatClampNeg y_13.toNatClampNeg (fz_15 44) → mV z_14 → mA fz_15 → mX [0, 44, 46] v fa z_14 fz_15 → va_P (dC, dI) vwCl (mW g0 pq cp z_14 fz_15) H → va_D A (mW g0 pq cp z_14 fz_15) → va_S A s.heap H locs → lv_has ls 5 [(4, .int y_13), (0, .ref g0), (1, .int x1), (2, .long x2)] → W p l e (headSpec wsX11_feed { frames := 1, cells := 0, slots := 0, locals := 21 }).room s m #[Value.ref g0, Value.int x1, Value.long x2] below meth c H locs 0 0 (MQ below (va_Qi (fun (r : Int32) (u : (Nat → Int32) × (Nat → Nat → Int32)) => mV u.1 ∧ mA u.2 ∧ mX [0, 44, 46] v fa u.1 u.2 ∧ (gfd (v 46).toInt x1.toInt x2 (fa 44) r.toInt (u.1 46).toInt (u.2 44))) (fun u t => va_P (dC, dI) vwCl (mW g0 pq cp u.1 u.2) t.heap ∧ va_K (dC, dI) vwCl (mT cp) t ∧ va_D A (mW g0 pq cp u.1 u.2)) A) #[Value.ref g0, Value.int x1, Value.long x2] s 0 0 A) (F0 m 39 ls []) := by
          intro n
          induction n using Nat.strongRecOn with
          | ind n ih =>
            intro y_13 z_14 fz_15 H locs ls hm hy_13 hq0_cut_12 hq1_cut_12 hVz_14 hAz_14 hRz_14 hP hD hS hl
            refine lv_iload hx hb dX11_feed_39 (lv_at hl 0 rfl) ?_
            refine lv_iload_n hx hb dX11_feed_41 rfl (lv_at hl 2 rfl) ?_
            refine lv_icmp_ge (tgt := 82) hx hb dX11_feed_42 (by decide) (fun c_16 => ?_) (fun c_16 => ?_)
            · have dc_16 := c_le (a := x1.toInt) (b := y_13.toInt) rfl rfl c_16
              refine lv_aload_n hx hb dX11_feed_82 rfl (lv_at hl 1 rfl) ?_
              refine va_get (D := (dC, dI)) (ci := 11) (v := .int (z_14 46)) (C := RX11) (T := TX11) (N := 63) hx hb hts in_wsX11_feed_X11 hown hK hP 0 rfl rfl 46 (by decide) (hts (.fieldLink RX11 205 "ShipOfficeModel" "taped" "I") iw_X11_feed_1) (fun _ h9 => h9) rfl dX11_feed_83 ?_
              refine lv_topi (fun x_17 ex_17 => ?_)
              have hx_17 : 0 ≤ x_17.toInt ∧ x_17.toInt ≤ 60 := iv_of ex_17 (hVz_14 46)
              have gx_17 : x_17.toInt = (z_14 46).toInt := iv_to ex_17
              clear ex_17
              exact W.iret (v := x_17) hx hb hr (fun t ht hW => ⟨⟨x_17, (z_14, fz_15), rfl, ⟨hVz_14, hAz_14, hRz_14, (by have e1 : y_13 = x1 := Int32.toInt_inj.mp (by omega); have g := hq1_cut_12; rw [e1] at g; exact Or.inr (Or.inr ⟨by omega, by omega, by omega, by omega, by dsimp only; omega, g⟩))⟩, ⟨by rw [ht]; exact hP, va_K.moved hW.alike hK, hD⟩⟩, hS.F ht⟩) hS.2.2 dX11_feed_86
            · have dc_16 := c_nle (a := x1.toInt) (b := y_13.toInt) rfl rfl c_16
              refine lv_aload_n hx hb dX11_feed_45 rfl (lv_at hl 1 rfl) ?_
              refine va_get (D := (dC, dI)) (ci := 11) (v := .ref (pq 44)) (C := RX11) (T := TX11) (N := 63) hx hb hts in_wsX11_feed_X11 hown hK hP 0 rfl rfl 44 (by decide) (hts (.fieldLink RX11 125 "ShipOfficeModel" "tape" "[I") iw_X11_feed_2) (fun _ h9 => h9) rfl dX11_feed_46 ?_
              refine lv_aload_n hx hb dX11_feed_49 rfl (lv_at hl 1 rfl) ?_
              refine va_get (D := (dC, dI)) (ci := 11) (v := .int (z_14 46)) (C := RX11) (T := TX11) (N := 63) hx hb hts in_wsX11_feed_X11 hown hK hP 0 rfl rfl 46 (by decide) (hts (.fieldLink RX11 205 "ShipOfficeModel" "taped" "I") iw_X11_feed_1) (fun _ h9 => h9) rfl dX11_feed_50 ?_
              refine lv_topi (fun x_18 ex_18 => ?_)
              have hx_18 : 0 ≤ x_18.toInt ∧ x_18.toInt ≤ 60 := iv_of ex_18 (hVz_14 46)
              have gx_18 : x_18.toInt = (z_14 46).toInt := iv_to ex_18
              clear ex_18
              refine lv_lload_n hx hb dX11_feed_53 rfl (lv_at hl 3 rfl) ?_
              refine lv_bipush (v := 8) hx hb dX11_feed_54 (by decide) ?_
              refine lv_iload hx hb dX11_feed_56 (lv_at hl 0 rfl) ?_
              refine lv_imul hx hb dX11_feed_58 ?_
              refine lv_topi (fun x_19 ex_19 => ?_)
              have hx_19 : x_19.toInt = 8 * y_13.toInt := (iv_to ex_19).trans (mu_i (by decide) rfl (by omega) (by omega))
              refine lv_lshr (v := x2 >>> ((x_19 : Int32).toInt64 &&& 63)) hx hb dX11_feed_59 rfl ?_
              refine lv_ldc2 (v := 255) hx hb hown (hts (.constantLong RX11 208 (255)) (by decide +kernel)) dX11_feed_60 ?_
              refine lv_land hx hb dX11_feed_63 ?_
              refine lv_l2i (v := ((x2 >>> ((x_19 : Int32).toInt64 &&& 63)) &&& 255 : Int64).toInt32) hx hb dX11_feed_64 rfl ?_
              refine lv_topi (fun x_20 ex_20 => ?_)
              refine va_iast hx hb hK hP hD hS 39 38 rfl rfl (vp_in_iff.mpr (by omega)) dX11_feed_65 (fun H locs hP hD hS => ?_)
              have hP : va_P (dC, dI) vwCl (mW g0 pq cp z_14 (upF fz_15 44 (x_18 : Int32).toNatClampNeg x_20)) H := hP
              have hD : va_D A (mW g0 pq cp z_14 (upF fz_15 44 (x_18 : Int32).toNatClampNeg x_20)) := hD
              obtain ⟨fz_21, efz_21⟩ : ∃ zq, zq = (upF fz_15 44 (x_18 : Int32).toNatClampNeg x_20) := ⟨_, rfl⟩
              rw [← efz_21] at hP hD
              have hAfz_21 : mA fz_21 := by rw [efz_21]; exact mA_upF (lo := -2147483648) (hi := 2147483647) hAz_14 rfl rfl (iv_all _)
              have hRfz_21 : mX [0, 44, 46] v fa z_14 fz_21 := by rw [efz_21]; exact mX.uF hRz_14 (by decide)
              refine lv_aload_n hx hb dX11_feed_66 rfl (lv_at hl 1 rfl) ?_
              refine lv_dup hx hb dX11_feed_67 rfl ?_
              refine va_get (D := (dC, dI)) (ci := 11) (v := .int (z_14 46)) (C := RX11) (T := TX11) (N := 63) hx hb hts in_wsX11_feed_X11 hown hK hP 0 rfl rfl 46 (by decide) (hts (.fieldLink RX11 205 "ShipOfficeModel" "taped" "I") iw_X11_feed_1) (fun _ h9 => h9) rfl dX11_feed_68 ?_
              refine lv_topi (fun x_22 ex_22 => ?_)
              have hx_22 : 0 ≤ x_22.toInt ∧ x_22.toInt ≤ 60 := iv_of ex_22 (hVz_14 46)
              have gx_22 : x_22.toInt = (z_14 46).toInt := iv_to ex_22
              clear ex_22
              refine lv_iconst (v := 1) hx hb dX11_feed_71 (by decide) ?_
              refine lv_iadd hx hb dX11_feed_72 ?_
              refine lv_topi (fun x_23 ex_23 => ?_)
              have hx_23 : x_23.toInt = x_22.toInt + 1 := (iv_to ex_23).trans (ad_i rfl (by decide) (by omega) (by omega))
              refine va_put (D := (dC, dI)) (ci := 11) (v := .int x_23) (ty := .int) (C := RX11) (T := TX11) (N := 63) hx hb hts in_wsX11_feed_X11 tyX11 tyX11_ok nmX11 hown hK hP hD hS 0 rfl rfl 46 (by decide) (hts (.fieldLink RX11 205 "ShipOfficeModel" "taped" "I") iw_X11_feed_1) (fun _ h9 => h9) rfl (by decide +kernel) rfl rfl (Nat.le_of_ble_eq_true rfl) dX11_feed_73 (fun H locs hP hD hS => ?_)
              have hP : va_P (dC, dI) vwCl (mW g0 pq cp (upd z_14 46 x_23) fz_21) H := hP
              have hD : va_D A (mW g0 pq cp (upd z_14 46 x_23) fz_21) := hD
              obtain ⟨z_24, ez_24⟩ : ∃ zq, zq = (upd z_14 46 x_23) := ⟨_, rfl⟩
              rw [← ez_24] at hP hD
              have hVz_24 : mV z_24 := by rw [ez_24]; exact mV_upd (lo := 0) (hi := 60) hVz_14 rfl rfl (by omega)
              have hRz_24 : mX [0, 44, 46] v fa z_24 fz_21 := by rw [ez_24]; exact mX.up hRfz_21 (by decide)
              have g_25 : (z_24 46).toInt = x_23.toInt := by rw [ez_24, show upd z_14 46 x_23 46 = x_23 from if_pos rfl]
              obtain ⟨x_26, ex_26⟩ : ∃ zq : Int32, y_13 + 1 = zq := ⟨_, rfl⟩
              have hx_26 : x_26.toInt = y_13.toInt + 1 := (iv_to ex_26).symm.trans (ad_i rfl (by decide) (by omega) (by omega))
              refine lv_iinc (v := x_26) (lv' := [(4, .int x_26), (0, .ref g0), (1, .int x1), (2, .long x2)]) hx hb dX11_feed_76 hl (k := 0) rfl ex_26 (by decide) rfl (fun ls hl => ?_)
              clear ex_26
              refine lv_goto (tgt := 39) hx hb dX11_feed_79 (by decide) ?_
              exact ih (n - 1) (by omega) x_26 z_24 fz_21 _ _ ls (by omega) (by omega) (by omega) (fd_s hq1_cut_12 (by rw [efz_21]; exact if_pos rfl) (by have n0 : (v 46).toNatClampNeg = (v 46).toInt.toNat := rfl; omega) (by omega) (by omega) ex_19 ex_20) hVz_24 hAfz_21 hRz_24 hP hD hS (lv_sub hl [0, 1, 2, 3] rfl)
        have kc_27 : (0 : Int32).toInt = 0 := by decide
        exact cut_12 9 0 v fa _ _ ls (by omega) (by decide) (by omega) (fd_0 (by decide)) gV gA mX.rf hP hD hS (lv_sub hl [0, 1, 2, 3] rfl)
      · have dc_11 := c_nle (a := x_10.toInt) (b := 60) rfl (by decide) c_11
        refine lv_aload_n hx hb dX11_feed_29 rfl (lv_at hl 0 rfl) ?_
        refine lv_bipush (v := (-6)) hx hb dX11_feed_30 (by decide) ?_
        have hFc := va_free (wc := (mW g0 pq cp v fa)) hD hS hA (List.range 48) rfl
        refine va_calli (va_runV (As := [.int (-6)]) (rest := []) ⟨hx, hb, hml, hown, hts⟩ (c_X11_refuse l dC dI s.heap.size g0 pq cp v fa (-6) (by unfold vp_in; decide)) (cwV 1 hts gX11_feed_X11_refuse rfl rfl rfl (by decide +kernel) ⟨(Nat.le_of_ble_eq_true rfl), (Nat.le_of_ble_eq_true rfl)⟩) (pr_V (r := (RX11, TX11, 63)) hP hK hD 0 11 rfl rfl) rfl rfl hl.1 rfl (lv_room (Nat.le_of_ble_eq_true rfl)) dX11_feed_32 ⟨(Nat.le_of_ble_eq_true rfl), (Nat.le_of_ble_eq_true rfl)⟩) hS (fun q _ h => hFc q h) hFc (fun r_29 u t H locs ht hvm w_28 hB hz1 hk1 hS => ?_)
        obtain ⟨v_30, fa_31⟩ := u
        obtain ⟨hP1, hK1, hD1⟩ := hB
        rw [ht] at hP1
        have hP : va_P (dC, dI) vwCl (mW g0 pq cp v_30 fa_31) H := hP1
        have hD : va_D A (mW g0 pq cp v_30 fa_31) := hD1.weaken (fun _ _ _ h => hFc _ h)
        clear hP1 hK1 hD1 hk1 hz1 hvm ht hFc
        obtain ⟨rfl, w_28⟩ := w_28
        have hVv_30 : mV v_30 := sm0_V w_28 gV
        have hAv_30 : mA fa_31 := sm0_A w_28 gA
        have g_32 : (v_30 46).toInt = (v 46).toInt := congrArg Int32.toInt (congrFun w_28.1 46)
        have hRv_30 : mX [0, 44, 46] v fa v_30 fa_31 := mX.st mX.rf (mX.s0 w_28) (by decide)
        exact W.iret (v := (-6)) hx hb hr (fun t ht hW => ⟨⟨(-6), (v_30, fa_31), rfl, ⟨hVv_30, hAv_30, hRv_30, (by unfold gfd; dsimp only; have e1 := w_28.2 44 (by decide); dsimp only at e1; rw [e1]; have h0 : ((-6) : Int32).toInt = -6 := (by decide); first | exact Or.inl ⟨by omega, by omega, by omega, rfl⟩ | exact Or.inr (Or.inl ⟨by omega, by omega, by omega, by omega, rfl⟩))⟩, ⟨by rw [ht]; exact hP, va_K.moved hW.alike hK, hD⟩⟩, hS.F ht⟩) hS.2.2 dX11_feed_35
  · have dc_2 := c_nle (a := 1) (b := x1.toInt) (by decide) rfl c_2
    refine lv_aload_n hx hb dX11_feed_5 rfl (lv_at hl 0 rfl) ?_
    refine lv_bipush (v := (-4)) hx hb dX11_feed_6 (by decide) ?_
    have hFc := va_free (wc := (mW g0 pq cp v fa)) hD hS hA (List.range 48) rfl
    refine va_calli (va_runV (As := [.int (-4)]) (rest := []) ⟨hx, hb, hml, hown, hts⟩ (c_X11_refuse l dC dI s.heap.size g0 pq cp v fa (-4) (by unfold vp_in; decide)) (cwV 1 hts gX11_feed_X11_refuse rfl rfl rfl (by decide +kernel) ⟨(Nat.le_of_ble_eq_true rfl), (Nat.le_of_ble_eq_true rfl)⟩) (pr_V (r := (RX11, TX11, 63)) hP hK hD 0 11 rfl rfl) rfl rfl hl.1 rfl (lv_room (Nat.le_of_ble_eq_true rfl)) dX11_feed_8 ⟨(Nat.le_of_ble_eq_true rfl), (Nat.le_of_ble_eq_true rfl)⟩) hS (fun q _ h => hFc q h) hFc (fun r_34 u t H locs ht hvm w_33 hB hz1 hk1 hS => ?_)
    obtain ⟨v_35, fa_36⟩ := u
    obtain ⟨hP1, hK1, hD1⟩ := hB
    rw [ht] at hP1
    have hP : va_P (dC, dI) vwCl (mW g0 pq cp v_35 fa_36) H := hP1
    have hD : va_D A (mW g0 pq cp v_35 fa_36) := hD1.weaken (fun _ _ _ h => hFc _ h)
    clear hP1 hK1 hD1 hk1 hz1 hvm ht hFc
    obtain ⟨rfl, w_33⟩ := w_33
    have hVv_35 : mV v_35 := sm0_V w_33 gV
    have hAv_35 : mA fa_36 := sm0_A w_33 gA
    have g_37 : (v_35 46).toInt = (v 46).toInt := congrArg Int32.toInt (congrFun w_33.1 46)
    have hRv_35 : mX [0, 44, 46] v fa v_35 fa_36 := mX.st mX.rf (mX.s0 w_33) (by decide)
    exact W.iret (v := (-4)) hx hb hr (fun t ht hW => ⟨⟨(-4), (v_35, fa_36), rfl, ⟨hVv_35, hAv_35, hRv_35, (by unfold gfd; dsimp only; have e1 := w_33.2 44 (by decide); dsimp only at e1; rw [e1]; have h0 : ((-4) : Int32).toInt = -4 := (by decide); first | exact Or.inl ⟨by omega, by omega, by omega, rfl⟩ | exact Or.inr (Or.inl ⟨by omega, by omega, by omega, by omega, rfl⟩))⟩, ⟨by rw [ht]; exact hP, va_K.moved hW.alike hK, hD⟩⟩, hS.F ht⟩) hS.2.2 dX11_feed_11
