

/-- 1 for true -/
def bI (b : Bool) : Int := if b = true then 1 else 0
theorem bI_01 (b : Bool) : bI b = 0 ∨ bI b = 1 := by cases b <;> decide
/-- behind a reading of R -/
def rdV (R : Nat × Bool × Int32) (n : Nat) (u : Nat → Int32) (r : Int32) : Prop := R.1 ≤ n ∧ (u 47).toInt = (R.1 : Int) ∧ (u 51).toInt = bI R.2.1 ∧ (R.2.1 = true → r = R.2.2)
theorem rdV_of {R : Nat × Bool × Int32} {v u : Nat → Int32} {n lev : Nat} {r : Int32} (h : pzf R v 0 n lev u r) (hn : n ≤ 60) : rdV R n u r := by
  obtain ⟨k', w, x, e, -, h2, h3, h4, -⟩ := h
  rw [e]
  refine ⟨h2, by rw [h3, nI_toInt (by omega)], ?_, fun q => ?_⟩
  · rcases h4 with ⟨rfl, h5⟩ | ⟨rfl, h5, -⟩
    · rw [h5]; show (0 : Int32).toInt = bI false; decide
    · rw [h5]; show (1 : Int32).toInt = bI true; decide
  · rcases h4 with ⟨rfl, h5⟩ | ⟨rfl, -, -, h5⟩
    · cases q
    · exact h5
/-- the text that a reader is set at -/
def bF (b : Int32) (fa : Nat → Nat → Int32) : Nat → Int32 := if b < 0 then fa 44 else fun i => fa 19 (b.toNatClampNeg + i)
theorem bF_h {b : Int32} {fa : Nat → Nat → Int32} {n : Nat} (h : b < 0 ∨ ∃ j : Nat, j ≤ 1740 ∧ b = nI j) : hbF b fa (bF b fa) n := by
  unfold bF
  by_cases c : b < 0
  · rw [if_pos c]
    exact Or.inl ⟨c, fun _ _ => rfl⟩
  · rw [if_neg c]
    rcases h with h | ⟨j, h1, h2⟩
    · exact absurd h c
    · refine Or.inr ⟨j, h1, h2, fun i _ => ?_⟩
      show _ = fa 19 (b.toNatClampNeg + i)
      rw [h2, nI_clamp (by omega)]
set_option maxHeartbeats 4000000 in
set_option maxRecDepth 100000 in
theorem c_X11_goesThrough_f (l : Launch) (dC : Nat → ClassId) (dI : Nat → Nat → Nat) (sz : Nat) (g0 : Nat) (pq : Nat → Nat) (cp : Nat → ClassId) (v : Nat → Int32) (fa : Nat → Nat → Int32) (x1 x2 : Int32) (n : Nat) (hn : n ≤ 60) (e2 : x2 = nI n) (f : Nat → Int32) (hb0 : hbF x1 fa f n) : Met l yX11_goesThrough wsX11_goesThrough ({ frames := 19, cells := 0, slots := 0, locals := 441 }) (va_Pc [.ref g0, .int x1, .int x2] (pcW (dC, dI) (mT cp) (mW g0 pq cp v fa) sz)) (va_Qi (fun (r : Int32) (u : (Nat → Int32) × (Nat → Nat → Int32)) => (rdR v n u.1 ∧ u.2 = fa) ∧ rdV (mvS (mL fa) (cI f n) 5 0) n u.1 r) (fun u t => va_P (dC, dI) vwCl (mW g0 pq cp u.1 u.2) t.heap ∧ va_K (dC, dI) vwCl (mT cp) t ∧ va_D (va_A (mW g0 pq cp v fa) sz) (mW g0 pq cp u.1 u.2)) (va_A (mW g0 pq cp v fa) sz)) 0 0 (va_A (mW g0 pq cp v fa) sz) := by
  refine Met.ofW (cc := cX11_goesThrough) (maxL := 3) (ret := (some .int)) (by decide +kernel) rfl ?_
  intro p e s m args below meth c s₁ B hml hv
  obtain ⟨rfl, hsz, hP, hK, hD0⟩ := hv
  have hx := B.exec
  have hb := B.bytes
  have hr := B.returns
  have hts := atoms_spec (ws := wsX11_goesThrough) B.pre
  have hown : s.vm.findClass RX11 = some m.cls := findClass_of_methodNamed B.named
  have hlocks := B.notSynchronized
  subst hsz
  have hD := hD0.self (sz := s.heap.size)
  generalize hAe : va_A (mW g0 pq cp v fa) s.heap.size = A at hD ⊢
  have hA : ∀ q : Nat, s.heap.size ≤ q → A q := fun q h => by rw [← hAe]; exact Or.inr h
  have hS : va_S A s.heap s.heap [] := va_S.rf
  have hP : va_P (dC, dI) vwCl (mW g0 pq cp v fa) s.heap := hP
  have hl := lv_entry ([.ref g0, .int x1, .int x2]) (n := 3) (Nat.le_of_ble_eq_true rfl)
  rw [lg_entry_eq]
  generalize (lg_sl ([.ref g0, .int x1, .int x2]) ++ List.replicate (3 - (lg_sl ([.ref g0, .int x1, .int x2])).length) Slot.unset).toArray = ls at hl ⊢
  have hl : lv_has ls 3 [(0, .ref g0), (1, .int x1), (2, .int x2)] := hl
  refine lv_aload_n hx hb dX11_goesThrough_0 rfl (lv_at hl 0 rfl) ?_
  refine lv_iload_n hx hb dX11_goesThrough_1 rfl (lv_at hl 1 rfl) ?_
  refine va_put (D := (dC, dI)) (ci := 11) (v := .int x1) (ty := .int) (C := RX11) (T := TX11) (N := 63) hx hb hts in_wsX11_goesThrough_X11 tyX11 tyX11_ok nmX11 hown hK hP hD hS 0 rfl rfl 49 (by decide +kernel) (hts (.fieldLink RX11 216 "ShipOfficeModel" "base" "I") iw_X11_goesThrough_1) (fun _ h9 => h9) rfl (by decide +kernel) rfl rfl (Nat.le_of_ble_eq_true rfl) dX11_goesThrough_2 (fun H locs hP hD hS => ?_)
  have hP : va_P (dC, dI) vwCl (mW g0 pq cp (upd v 49 x1) fa) H := hP
  have hD : va_D A (mW g0 pq cp (upd v 49 x1) fa) := hD
  obtain ⟨z_1, ez_1⟩ : ∃ zq, zq = (upd v 49 x1) := ⟨_, rfl⟩
  rw [← ez_1] at hP hD
  refine lv_aload_n hx hb dX11_goesThrough_5 rfl (lv_at hl 0 rfl) ?_
  refine lv_iload_n hx hb dX11_goesThrough_6 rfl (lv_at hl 2 rfl) ?_
  refine va_put (D := (dC, dI)) (ci := 11) (v := .int x2) (ty := .int) (C := RX11) (T := TX11) (N := 63) hx hb hts in_wsX11_goesThrough_X11 tyX11 tyX11_ok nmX11 hown hK hP hD hS 0 rfl rfl 50 (by decide +kernel) (hts (.fieldLink RX11 213 "ShipOfficeModel" "size" "I") iw_X11_goesThrough_2) (fun _ h9 => h9) rfl (by decide +kernel) rfl rfl (Nat.le_of_ble_eq_true rfl) dX11_goesThrough_7 (fun H locs hP hD hS => ?_)
  have hP : va_P (dC, dI) vwCl (mW g0 pq cp (upd z_1 50 x2) fa) H := hP
  have hD : va_D A (mW g0 pq cp (upd z_1 50 x2) fa) := hD
  obtain ⟨z_2, ez_2⟩ : ∃ zq, zq = (upd z_1 50 x2) := ⟨_, rfl⟩
  rw [← ez_2] at hP hD
  refine lv_aload_n hx hb dX11_goesThrough_10 rfl (lv_at hl 0 rfl) ?_
  refine lv_iconst (v := 0) hx hb dX11_goesThrough_11 (by decide +kernel) ?_
  refine va_put (D := (dC, dI)) (ci := 11) (v := .int 0) (ty := .int) (C := RX11) (T := TX11) (N := 63) hx hb hts in_wsX11_goesThrough_X11 tyX11 tyX11_ok nmX11 hown hK hP hD hS 0 rfl rfl 47 (by decide +kernel) (hts (.fieldLink RX11 210 "ShipOfficeModel" "at" "I") iw_X11_goesThrough_3) (fun _ h9 => h9) rfl (by decide +kernel) rfl rfl (Nat.le_of_ble_eq_true rfl) dX11_goesThrough_12 (fun H locs hP hD hS => ?_)
  have hP : va_P (dC, dI) vwCl (mW g0 pq cp (upd z_2 47 0) fa) H := hP
  have hD : va_D A (mW g0 pq cp (upd z_2 47 0) fa) := hD
  obtain ⟨z_3, ez_3⟩ : ∃ zq, zq = (upd z_2 47 0) := ⟨_, rfl⟩
  rw [← ez_3] at hP hD
  refine lv_aload_n hx hb dX11_goesThrough_15 rfl (lv_at hl 0 rfl) ?_
  refine lv_iconst (v := 0) hx hb dX11_goesThrough_16 (by decide +kernel) ?_
  refine va_put (D := (dC, dI)) (ci := 11) (v := .int 0) (ty := .int) (C := RX11) (T := TX11) (N := 63) hx hb hts in_wsX11_goesThrough_X11 tyX11 tyX11_ok nmX11 hown hK hP hD hS 0 rfl rfl 48 (by decide +kernel) (hts (.fieldLink RX11 244 "ShipOfficeModel" "deep" "I") iw_X11_goesThrough_4) (fun _ h9 => h9) rfl (by decide +kernel) rfl rfl (Nat.le_of_ble_eq_true rfl) dX11_goesThrough_17 (fun H locs hP hD hS => ?_)
  have hP : va_P (dC, dI) vwCl (mW g0 pq cp (upd z_3 48 0) fa) H := hP
  have hD : va_D A (mW g0 pq cp (upd z_3 48 0) fa) := hD
  obtain ⟨z_4, ez_4⟩ : ∃ zq, zq = (upd z_3 48 0) := ⟨_, rfl⟩
  rw [← ez_4] at hP hD
  refine lv_aload_n hx hb dX11_goesThrough_20 rfl (lv_at hl 0 rfl) ?_
  refine lv_iconst (v := 1) hx hb dX11_goesThrough_21 (by decide +kernel) ?_
  refine va_put (D := (dC, dI)) (ci := 11) (v := .int 1) (ty := .boolean) (C := RX11) (T := TX11) (N := 63) hx hb hts in_wsX11_goesThrough_X11 tyX11 tyX11_ok nmX11 hown hK hP hD hS 0 rfl rfl 51 (by decide +kernel) (hts (.fieldLink RX11 223 "ShipOfficeModel" "isWell" "Z") iw_X11_goesThrough_5) (fun _ h9 => h9) rfl (by decide +kernel) rfl rfl (Nat.le_of_ble_eq_true rfl) dX11_goesThrough_22 (fun H locs hP hD hS => ?_)
  have hP : va_P (dC, dI) vwCl (mW g0 pq cp (upd z_4 51 1) fa) H := hP
  have hD : va_D A (mW g0 pq cp (upd z_4 51 1) fa) := hD
  obtain ⟨z_5, ez_5⟩ : ∃ zq, zq = (upd z_4 51 1) := ⟨_, rfl⟩
  rw [← ez_5] at hP hD
  refine lv_aload_n hx hb dX11_goesThrough_25 rfl (lv_at hl 0 rfl) ?_
  have hFc := va_free (wc := (mW g0 pq cp z_5 fa)) hD hS hA (List.range 48) rfl
  refine va_calli (va_runV (As := []) (rest := []) ⟨hx, hb, hml, hown, hts⟩ (c_X11_sum_0f l dC dI H.size g0 pq cp z_5 fa 0 n (Nat.zero_le n) hn (by rw [ez_5, ez_4, ez_3, ez_2, ez_1]; rfl) (by rw [ez_5, ez_4, ez_3, ez_2, ez_1]; exact e2) f (by rw [ez_5, ez_4, ez_3, ez_2, ez_1]; exact hb0) (by rw [ez_5, ez_4, ez_3, ez_2, ez_1]; rfl) (by rw [ez_5, ez_4, ez_3, ez_2, ez_1]; rfl)) (cwV 0 hts gX11_goesThrough_X11_sum rfl rfl rfl (by decide +kernel) ⟨(Nat.le_of_ble_eq_true rfl), (Nat.le_of_ble_eq_true rfl)⟩) (pr_V (r := (RX11, TX11, 63)) hP hK hD 0 11 rfl rfl) rfl rfl hl.1 rfl (lv_room (Nat.le_of_ble_eq_true rfl)) dX11_goesThrough_26 ⟨(Nat.le_of_ble_eq_true rfl), (Nat.le_of_ble_eq_true rfl)⟩) hS (fun q _ h => hFc q h) hFc (fun r_7 u t H locs ht hvm w_6 hB hz1 hk1 hS => ?_)
  obtain ⟨v_8, fa_9⟩ := u
  obtain ⟨hP1, hK1, hD1⟩ := hB
  rw [ht] at hP1
  have hP : va_P (dC, dI) vwCl (mW g0 pq cp v_8 fa_9) H := hP1
  have hD : va_D A (mW g0 pq cp v_8 fa_9) := hD1.weaken (fun _ _ _ h => hFc _ h)
  clear hP1 hK1 hD1 hk1 hz1 hvm ht hFc
  obtain ⟨hpz, ef2⟩ := w_6
  dsimp only at hpz ef2
  have hrv := rdV_of hpz hn
  obtain ⟨k2, w2, y2, -, -, hk2, ea2, wd2, sm2⟩ := hpz
  exact W.iret (v := r_7) hx hb hr (fun t ht hW => ⟨⟨r_7, (v_8, fa_9), rfl, ⟨⟨⟨k2, hk2, ea2, wd2.elim (fun h => Or.inl h.2) (fun h => Or.inr h.2.1), fun i h1 h2 h3 h4 h5 => (sm2 i h1 h2 h3).trans (by rw [ez_5, ez_4, ez_3, ez_2, ez_1]; unfold upd; rw [if_neg h3, if_neg h2, if_neg h1, if_neg h5, if_neg h4])⟩, ef2⟩, hrv⟩, ⟨by rw [ht]; exact hP, va_K.moved hW.alike hK, hD⟩⟩, hS.F ht⟩) hS.2.2 dX11_goesThrough_29
