


set_option maxHeartbeats 4000000 in
set_option maxRecDepth 100000 in
theorem c_X11_term_4 (l : Launch) (dC : Nat → ClassId) (dI : Nat → Nat → Nat) (sz : Nat) (g0 : Nat) (pq : Nat → Nat) (cp : Nat → ClassId) (v : Nat → Int32) (fa : Nat → Nat → Int32) (k n : Nat) (hk : k ≤ n) (hn : n ≤ 60) (ea : v 47 = nI k) (es : v 50 = nI n) (hb0 : v 49 < 0 ∨ ∃ j : Nat, j ≤ 1740 ∧ v 49 = nI j) (hwe : v 51 = 1) (hde : v 48 = nI 4) : Met l yX11_term wsX11_term ({ frames := 5, cells := 0, slots := 0, locals := 115 }) (va_Pc [.ref g0] (pcW (dC, dI) (mT cp) (mW g0 pq cp v fa) sz)) (va_Qi (fun (r : Int32) (u : (Nat → Int32) × (Nat → Nat → Int32)) => pz v k n 4 u.1 ∧ u.2 = fa) (fun u t => va_P (dC, dI) vwCl (mW g0 pq cp u.1 u.2) t.heap ∧ va_K (dC, dI) vwCl (mT cp) t ∧ va_D (va_A (mW g0 pq cp v fa) sz) (mW g0 pq cp u.1 u.2)) (va_A (mW g0 pq cp v fa) sz)) 0 0 (va_A (mW g0 pq cp v fa) sz) := by
  refine Met.ofW (cc := cX11_term) (maxL := 4) (ret := (some .int)) (by decide) rfl ?_
  intro p e s m args below meth c s₁ B hml hv
  obtain ⟨rfl, hsz, hP, hK, hD0⟩ := hv
  have hx := B.exec
  have hb := B.bytes
  have hr := B.returns
  have hts := atoms_spec (ws := wsX11_term) B.pre
  have hown : s.vm.findClass RX11 = some m.cls := findClass_of_methodNamed B.named
  have hlocks := B.notSynchronized
  subst hsz
  have hD := hD0.self (sz := s.heap.size)
  generalize hAe : va_A (mW g0 pq cp v fa) s.heap.size = A at hD ⊢
  have hA : ∀ q : Nat, s.heap.size ≤ q → A q := fun q h => by rw [← hAe]; exact Or.inr h
  have hS : va_S A s.heap s.heap [] := va_S.rf
  have hP : va_P (dC, dI) vwCl (mW g0 pq cp v fa) s.heap := hP
  have hl := lv_entry ([.ref g0]) (n := 4) (Nat.le_of_ble_eq_true rfl)
  rw [lg_entry_eq]
  generalize (lg_sl ([.ref g0]) ++ List.replicate (4 - (lg_sl ([.ref g0])).length) Slot.unset).toArray = ls at hl ⊢
  have hl : lv_has ls 4 [(0, .ref g0)] := hl
  refine lv_aload_n hx hb dX11_term_0 rfl (lv_at hl 0 rfl) ?_
  have hFc := va_free (wc := (mW g0 pq cp v fa)) hD hS hA (List.range 48) rfl
  refine va_calli (va_runV (As := []) (rest := []) ⟨hx, hb, hml, hown, hts⟩ (c_X11_unit_4 l dC dI s.heap.size g0 pq cp v fa k n hk hn ea es hb0 hwe hde) (cwV 0 hts gX11_term_X11_unit rfl rfl rfl (by decide +kernel) ⟨(Nat.le_of_ble_eq_true rfl), (Nat.le_of_ble_eq_true rfl)⟩) (pr_V (r := (RX11, TX11, 63)) hP hK hD 0 11 rfl rfl) rfl rfl hl.1 rfl (lv_room (Nat.le_of_ble_eq_true rfl)) dX11_term_1 ⟨(Nat.le_of_ble_eq_true rfl), (Nat.le_of_ble_eq_true rfl)⟩) hS (fun q _ h => hFc q h) hFc (fun r_2 u t H locs ht hvm w_1 hB hz1 hk1 hS => ?_)
  obtain ⟨v_3, fa_4⟩ := u
  obtain ⟨hP1, hK1, hD1⟩ := hB
  rw [ht] at hP1
  have hP : va_P (dC, dI) vwCl (mW g0 pq cp v_3 fa_4) H := hP1
  have hD : va_D A (mW g0 pq cp v_3 fa_4) := hD1.weaken (fun _ _ _ h => hFc _ h)
  clear hP1 hK1 hD1 hk1 hz1 hvm ht hFc
  obtain ⟨⟨k_5, ha_6, hb_7, ea_8, wd_9, sm_10⟩, ef_11⟩ := w_1
  dsimp only at ea_8 wd_9 sm_10 ef_11
  have es_v_3 : v_3 50 = nI n := (sm_10 50 (by decide) (by decide) (by decide)).trans es
  have hb_v_3 : v_3 49 < 0 ∨ ∃ j : Nat, j ≤ 1740 ∧ v_3 49 = nI j := by rw [sm_10 49 (by decide) (by decide) (by decide)]; exact hb0
  have sm_v_3 : ∀ i, i ≠ 47 → i ≠ 48 → i ≠ 51 → v_3 i = v i := fun i h1 h2 h3 => (sm_10 i h1 h2 h3).trans ((fun i _ _ _ => rfl) i h1 h2 h3)
  refine lv_istore_n (lv' := [(1, .int r_2), (0, .ref g0)]) hx hb dX11_term_4 rfl hl (by decide) rfl (fun ls hl => ?_)
  have hloop : ∀ (N : Nat) (z : Nat → Int32) (fz : Nat → Nat → Int32) (kz : Nat) (x : Int32) (H : Heap) (locs : List Loc) (ls : Array Slot), n ≤ kz + N → k ≤ kz → kz ≤ n → z 47 = nI kz → z 50 = nI n → (z 49 < 0 ∨ ∃ j : Nat, j ≤ 1740 ∧ z 49 = nI j) → (z 51 = 0 ∨ (z 51 = 1 ∧ z 48 = nI 4)) → (∀ i, i ≠ 47 → i ≠ 48 → i ≠ 51 → z i = v i) → fz = fa → va_P (dC, dI) vwCl (mW g0 pq cp z fz) H → va_D A (mW g0 pq cp z fz) → va_S A s.heap H locs → lv_has ls 4 [(1, .int x), (0, .ref g0)] → W p l e (headSpec wsX11_term { frames := 5, cells := 0, slots := 0, locals := 115 }).room s m #[Value.ref g0] below meth c H locs 0 0 (MQ below (va_Qi (fun (r : Int32) (u : (Nat → Int32) × (Nat → Nat → Int32)) => pz v k n 4 u.1 ∧ u.2 = fa) (fun u t => va_P (dC, dI) vwCl (mW g0 pq cp u.1 u.2) t.heap ∧ va_K (dC, dI) vwCl (mT cp) t ∧ va_D A (mW g0 pq cp u.1 u.2)) A) #[Value.ref g0] s 0 0 A) (F0 m 5 ls []) := by
    intro N
    induction N with
    | zero =>
      intro z fz kz x H locs ls hN hk0 hkn eaz esz hbz wdz smz efz hP hD hS hl
      refine lv_aload_n hx hb dX11_term_5 rfl (lv_at hl 1 rfl) ?_
      rcases wdz with we_12 | ⟨we_13, de_14⟩
      · refine va_get (D := (dC, dI)) (ci := 11) (v := .int (z 51)) (C := RX11) (T := TX11) (N := 63) hx hb hts in_wsX11_term_X11 hown hK hP 0 rfl rfl 51 (by decide) (hts (.fieldLink RX11 223 "ShipOfficeModel" "isWell" "Z") iw_X11_term_1) (fun _ h9 => h9) rfl dX11_term_6 ?_
        refine lv_topi (fun y ey => ?_)
        obtain rfl : y = 0 := ey.trans (we_12.trans (by decide))
        refine lv_if_eq (tgt := 87) hx hb dX11_term_9 (by decide) (fun _ => ?_) (fun c_15 => absurd c_15 (by decide))
        refine lv_iload_n hx hb dX11_term_87 rfl (lv_at hl 0 rfl) ?_
        exact W.iret (v := x) hx hb hr (fun t ht hW => ⟨⟨x, (z, fz), rfl, ⟨⟨kz, by omega, hkn, eaz, (Or.inl we_12), smz⟩, efz⟩, ⟨by rw [ht]; exact hP, va_K.moved hW.alike hK, hD⟩⟩, hS.F ht⟩) hS.2.2 dX11_term_88
      · refine va_get (D := (dC, dI)) (ci := 11) (v := .int (z 51)) (C := RX11) (T := TX11) (N := 63) hx hb hts in_wsX11_term_X11 hown hK hP 0 rfl rfl 51 (by decide) (hts (.fieldLink RX11 223 "ShipOfficeModel" "isWell" "Z") iw_X11_term_1) (fun _ h9 => h9) rfl dX11_term_6 ?_
        refine lv_topi (fun y ey => ?_)
        obtain rfl : y = 1 := ey.trans (we_13.trans (by decide))
        refine lv_if_eq (tgt := 87) hx hb dX11_term_9 (by decide) (fun c_16 => absurd c_16 (by decide)) (fun _ => ?_)
        refine lv_aload_n hx hb dX11_term_12 rfl (lv_at hl 1 rfl) ?_
        have hFc : ∀ q, va_A [] H.size q → A q := pu_free hS hA
        refine va_calli (va_runV (As := []) (rest := []) ⟨hx, hb, hml, hown, hts⟩ (c_X11_sign l dC dI H.size g0 pq cp z fz kz n hkn hn eaz esz hbz) (cwV 0 hts gX11_term_X11_sign rfl rfl rfl (by decide +kernel) ⟨(Nat.le_of_ble_eq_true rfl), (Nat.le_of_ble_eq_true rfl)⟩) (pr_V (r := (RX11, TX11, 63)) hP hK hD 0 11 rfl rfl) rfl rfl hl.1 rfl (lv_room (Nat.le_of_ble_eq_true rfl)) dX11_term_13 ⟨(Nat.le_of_ble_eq_true rfl), (Nat.le_of_ble_eq_true rfl)⟩) hS (fun q _ h => hFc q h) hFc (fun r_18 u t H locs ht hvm w_17 hB hz1 hk1 hS => ?_)
        have hP := pu_keep hP hk1
        clear hk1 hz1 hvm hB ht hFc
        refine lv_bipush (v := 42) hx hb dX11_term_16 (by decide) ?_
        refine lv_icmp_eq (tgt := 30) hx hb dX11_term_18 (by decide) (fun c_19 => ?_) (fun c_19 => ?_)
        · have hlt : kz < n := (w_17.resolve_left (fun h => absurd (c_19.symm.trans h) (by decide)))
          exact absurd hlt (by omega)
        · refine lv_aload_n hx hb dX11_term_21 rfl (lv_at hl 1 rfl) ?_
          have hFc : ∀ q, va_A [] H.size q → A q := pu_free hS hA
          refine va_calli (va_runV (As := []) (rest := []) ⟨hx, hb, hml, hown, hts⟩ (c_X11_sign l dC dI H.size g0 pq cp z fz kz n hkn hn eaz esz hbz) (cwV 0 hts gX11_term_X11_sign rfl rfl rfl (by decide +kernel) ⟨(Nat.le_of_ble_eq_true rfl), (Nat.le_of_ble_eq_true rfl)⟩) (pr_V (r := (RX11, TX11, 63)) hP hK hD 0 11 rfl rfl) rfl rfl hl.1 rfl (lv_room (Nat.le_of_ble_eq_true rfl)) dX11_term_22 ⟨(Nat.le_of_ble_eq_true rfl), (Nat.le_of_ble_eq_true rfl)⟩) hS (fun q _ h => hFc q h) hFc (fun r_21 u t H locs ht hvm w_20 hB hz1 hk1 hS => ?_)
          have hP := pu_keep hP hk1
          clear hk1 hz1 hvm hB ht hFc
          refine lv_bipush (v := 47) hx hb dX11_term_25 (by decide) ?_
          refine lv_icmp_ne (tgt := 87) hx hb dX11_term_27 (by decide) (fun c_22 => ?_) (fun c_22 => ?_)
          · refine lv_iload_n hx hb dX11_term_87 rfl (lv_at hl 0 rfl) ?_
            exact W.iret (v := x) hx hb hr (fun t ht hW => ⟨⟨x, (z, fz), rfl, ⟨⟨kz, by omega, hkn, eaz, (Or.inr ⟨we_13, de_14⟩), smz⟩, efz⟩, ⟨by rw [ht]; exact hP, va_K.moved hW.alike hK, hD⟩⟩, hS.F ht⟩) hS.2.2 dX11_term_88
          · have hlt : kz < n := (w_20.resolve_left (fun h => absurd (c_22.symm.trans h) (by decide)))
            exact absurd hlt (by omega)
    | succ N ih =>
      intro z fz kz x H locs ls hN hk0 hkn eaz esz hbz wdz smz efz hP hD hS hl
      refine lv_aload_n hx hb dX11_term_5 rfl (lv_at hl 1 rfl) ?_
      rcases wdz with we_23 | ⟨we_24, de_25⟩
      · refine va_get (D := (dC, dI)) (ci := 11) (v := .int (z 51)) (C := RX11) (T := TX11) (N := 63) hx hb hts in_wsX11_term_X11 hown hK hP 0 rfl rfl 51 (by decide) (hts (.fieldLink RX11 223 "ShipOfficeModel" "isWell" "Z") iw_X11_term_1) (fun _ h9 => h9) rfl dX11_term_6 ?_
        refine lv_topi (fun y ey => ?_)
        obtain rfl : y = 0 := ey.trans (we_23.trans (by decide))
        refine lv_if_eq (tgt := 87) hx hb dX11_term_9 (by decide) (fun _ => ?_) (fun c_26 => absurd c_26 (by decide))
        refine lv_iload_n hx hb dX11_term_87 rfl (lv_at hl 0 rfl) ?_
        exact W.iret (v := x) hx hb hr (fun t ht hW => ⟨⟨x, (z, fz), rfl, ⟨⟨kz, by omega, hkn, eaz, (Or.inl we_23), smz⟩, efz⟩, ⟨by rw [ht]; exact hP, va_K.moved hW.alike hK, hD⟩⟩, hS.F ht⟩) hS.2.2 dX11_term_88
      · refine va_get (D := (dC, dI)) (ci := 11) (v := .int (z 51)) (C := RX11) (T := TX11) (N := 63) hx hb hts in_wsX11_term_X11 hown hK hP 0 rfl rfl 51 (by decide) (hts (.fieldLink RX11 223 "ShipOfficeModel" "isWell" "Z") iw_X11_term_1) (fun _ h9 => h9) rfl dX11_term_6 ?_
        refine lv_topi (fun y ey => ?_)
        obtain rfl : y = 1 := ey.trans (we_24.trans (by decide))
        refine lv_if_eq (tgt := 87) hx hb dX11_term_9 (by decide) (fun c_27 => absurd c_27 (by decide)) (fun _ => ?_)
        refine lv_aload_n hx hb dX11_term_12 rfl (lv_at hl 1 rfl) ?_
        have hFc : ∀ q, va_A [] H.size q → A q := pu_free hS hA
        refine va_calli (va_runV (As := []) (rest := []) ⟨hx, hb, hml, hown, hts⟩ (c_X11_sign l dC dI H.size g0 pq cp z fz kz n hkn hn eaz esz hbz) (cwV 0 hts gX11_term_X11_sign rfl rfl rfl (by decide +kernel) ⟨(Nat.le_of_ble_eq_true rfl), (Nat.le_of_ble_eq_true rfl)⟩) (pr_V (r := (RX11, TX11, 63)) hP hK hD 0 11 rfl rfl) rfl rfl hl.1 rfl (lv_room (Nat.le_of_ble_eq_true rfl)) dX11_term_13 ⟨(Nat.le_of_ble_eq_true rfl), (Nat.le_of_ble_eq_true rfl)⟩) hS (fun q _ h => hFc q h) hFc (fun r_29 u t H locs ht hvm w_28 hB hz1 hk1 hS => ?_)
        have hP := pu_keep hP hk1
        clear hk1 hz1 hvm hB ht hFc
        refine lv_bipush (v := 42) hx hb dX11_term_16 (by decide) ?_
        refine lv_icmp_eq (tgt := 30) hx hb dX11_term_18 (by decide) (fun c_30 => ?_) (fun c_30 => ?_)
        · refine lv_aload_n hx hb dX11_term_30 rfl (lv_at hl 1 rfl) ?_
          have hFc : ∀ q, va_A [] H.size q → A q := pu_free hS hA
          refine va_calli (va_runV (As := []) (rest := []) ⟨hx, hb, hml, hown, hts⟩ (c_X11_sign l dC dI H.size g0 pq cp z fz kz n hkn hn eaz esz hbz) (cwV 0 hts gX11_term_X11_sign rfl rfl rfl (by decide +kernel) ⟨(Nat.le_of_ble_eq_true rfl), (Nat.le_of_ble_eq_true rfl)⟩) (pr_V (r := (RX11, TX11, 63)) hP hK hD 0 11 rfl rfl) rfl rfl hl.1 rfl (lv_room (Nat.le_of_ble_eq_true rfl)) dX11_term_31 ⟨(Nat.le_of_ble_eq_true rfl), (Nat.le_of_ble_eq_true rfl)⟩) hS (fun q _ h => hFc q h) hFc (fun r_32 u t H locs ht hvm w_31 hB hz1 hk1 hS => ?_)
          have hP := pu_keep hP hk1
          clear hk1 hz1 hvm hB ht hFc
          refine lv_istore_n (lv' := [(2, .int r_32), (1, .int x), (0, .ref g0)]) hx hb dX11_term_34 rfl hl (by decide) rfl (fun ls hl => ?_)
          refine lv_aload_n hx hb dX11_term_35 rfl (lv_at hl 2 rfl) ?_
          refine lv_dup hx hb dX11_term_36 rfl ?_
          refine va_get (D := (dC, dI)) (ci := 11) (v := .int (z 47)) (C := RX11) (T := TX11) (N := 63) hx hb hts in_wsX11_term_X11 hown hK hP 0 rfl rfl 47 (by decide) (hts (.fieldLink RX11 210 "ShipOfficeModel" "at" "I") iw_X11_term_2) (fun _ h9 => h9) rfl dX11_term_37 ?_
          refine lv_iconst (v := 1) hx hb dX11_term_40 (by decide) ?_
          refine lv_iadd hx hb dX11_term_41 ?_
          refine lv_topi (fun y ey => ?_)
          obtain rfl : y = nI (kz + 1) := ey.trans (by rw [eaz]; exact nI_1 _)
          refine va_put (D := (dC, dI)) (ci := 11) (v := .int (nI (kz + 1))) (ty := .int) (C := RX11) (T := TX11) (N := 63) hx hb hts in_wsX11_term_X11 tyX11 tyX11_ok nmX11 hown hK hP hD hS 0 rfl rfl 47 (by decide) (hts (.fieldLink RX11 210 "ShipOfficeModel" "at" "I") iw_X11_term_2) (fun _ h9 => h9) rfl (by decide +kernel) rfl rfl (Nat.le_of_ble_eq_true rfl) dX11_term_42 (fun H locs hP hD hS => ?_)
          have hP : va_P (dC, dI) vwCl (mW g0 pq cp (upd z 47 (nI (kz + 1))) fz) H := hP
          have hD : va_D A (mW g0 pq cp (upd z 47 (nI (kz + 1))) fz) := hD
          obtain ⟨z_33, ez_33⟩ : ∃ zq, zq = (upd z 47 (nI (kz + 1))) := ⟨_, rfl⟩
          rw [← ez_33] at hP hD
          have ea_z_33 : z_33 47 = nI (kz + 1) := by rw [ez_33]; rfl
          have es_z_33 : z_33 50 = nI n := by rw [ez_33]; exact esz
          have hb_z_33 : z_33 49 < 0 ∨ ∃ j : Nat, j ≤ 1740 ∧ z_33 49 = nI j := by rw [ez_33]; exact hbz
          have we_z_33 : z_33 51 = 1 := by rw [ez_33]; exact we_24
          have de_z_33 : z_33 48 = nI 4 := by rw [ez_33]; exact de_25
          have sm_z_33 : ∀ i, i ≠ 47 → i ≠ 48 → i ≠ 51 → z_33 i = v i := by intro i h1 h2 h3; rw [ez_33]; exact (if_neg h1).trans (smz i h1 h2 h3)
          have hkn_z_33 : (kz + 1) ≤ n := (w_28.resolve_left (fun h => absurd (c_30.symm.trans h) (by decide)))
          have hk0_z_33 : k ≤ (kz + 1) := by omega
          refine lv_aload_n hx hb dX11_term_45 rfl (lv_at hl 2 rfl) ?_
          have hFc := va_free (wc := (mW g0 pq cp z_33 fz)) hD hS hA (List.range 48) rfl
          refine va_calli (va_runV (As := []) (rest := []) ⟨hx, hb, hml, hown, hts⟩ (c_X11_unit_4 l dC dI H.size g0 pq cp z_33 fz (kz + 1) n hkn_z_33 hn ea_z_33 es_z_33 hb_z_33 we_z_33 de_z_33) (cwV 0 hts gX11_term_X11_unit rfl rfl rfl (by decide +kernel) ⟨(Nat.le_of_ble_eq_true rfl), (Nat.le_of_ble_eq_true rfl)⟩) (pr_V (r := (RX11, TX11, 63)) hP hK hD 0 11 rfl rfl) rfl rfl hl.1 rfl (lv_room (Nat.le_of_ble_eq_true rfl)) dX11_term_46 ⟨(Nat.le_of_ble_eq_true rfl), (Nat.le_of_ble_eq_true rfl)⟩) hS (fun q _ h => hFc q h) hFc (fun r_35 u t H locs ht hvm w_34 hB hz1 hk1 hS => ?_)
          obtain ⟨v_36, fa_37⟩ := u
          obtain ⟨hP1, hK1, hD1⟩ := hB
          rw [ht] at hP1
          have hP : va_P (dC, dI) vwCl (mW g0 pq cp v_36 fa_37) H := hP1
          have hD : va_D A (mW g0 pq cp v_36 fa_37) := hD1.weaken (fun _ _ _ h => hFc _ h)
          clear hP1 hK1 hD1 hk1 hz1 hvm ht hFc
          obtain ⟨⟨k_38, ha_39, hb_40, ea_41, wd_42, sm_43⟩, ef_44⟩ := w_34
          dsimp only at ea_41 wd_42 sm_43 ef_44
          have es_v_36 : v_36 50 = nI n := (sm_43 50 (by decide) (by decide) (by decide)).trans es_z_33
          have hb_v_36 : v_36 49 < 0 ∨ ∃ j : Nat, j ≤ 1740 ∧ v_36 49 = nI j := by rw [sm_43 49 (by decide) (by decide) (by decide)]; exact hb_z_33
          have sm_v_36 : ∀ i, i ≠ 47 → i ≠ 48 → i ≠ 51 → v_36 i = v i := fun i h1 h2 h3 => (sm_43 i h1 h2 h3).trans (sm_z_33 i h1 h2 h3)
          refine lv_istore_n (lv' := [(3, .int r_35), (2, .int r_32), (1, .int x), (0, .ref g0)]) hx hb dX11_term_49 rfl hl (by decide) rfl (fun ls hl => ?_)
          refine lv_iload_n hx hb dX11_term_50 rfl (lv_at hl 1 rfl) ?_
          refine lv_bipush (v := 42) hx hb dX11_term_51 (by decide) ?_
          refine lv_icmp_ne (tgt := 67) hx hb dX11_term_53 (by decide) (fun c_45 => ?_) (fun c_45 => ?_)
          · refine lv_iload_n hx hb dX11_term_67 rfl (lv_at hl 0 rfl) ?_
            refine lv_if_ne (tgt := 75) hx hb dX11_term_68 (by decide) (fun c_46 => ?_) (fun c_46 => ?_)
            · refine lv_iload_n hx hb dX11_term_75 rfl (lv_at hl 2 rfl) ?_
              refine lv_i2l (v := (x : Int32).toInt64) hx hb dX11_term_76 rfl ?_
              refine lv_iload_n hx hb dX11_term_77 rfl (lv_at hl 0 rfl) ?_
              refine lv_i2l (v := (r_35 : Int32).toInt64) hx hb dX11_term_78 rfl ?_
              refine lv_ldiv hx hb dX11_term_79 (wd_ne c_46) ?_
              have hFc : ∀ q, va_A [] H.size q → A q := pu_free hS hA
              have hPc := hP.sub (ws' := []) [] rfl
              have hDc := hD.sub (ws' := []) [] (by decide) rfl
              have hKc := hK.sub (tys' := []) [] rfl
              refine va_calli (va_runS (As := [.long (((x : Int32).toInt64) / ((r_35 : Int32).toInt64))]) (rest := []) ⟨hx, hb, hml, hown, hts⟩ (c_X11_held l dC dI H.size (((x : Int32).toInt64) / ((r_35 : Int32).toInt64))) (va_cwS 1 hts gX11_term_X11_held rfl rfl rfl (by decide +kernel) ⟨(Nat.le_of_ble_eq_true rfl), (Nat.le_of_ble_eq_true rfl)⟩) (pr_S hPc hKc hDc) rfl rfl hl.1 rfl (lv_room (Nat.le_of_ble_eq_true rfl)) dX11_term_80 ⟨(Nat.le_of_ble_eq_true rfl), (Nat.le_of_ble_eq_true rfl)⟩) hS (fun q _ h => hFc q h) hFc (fun r_48 u t H locs ht hvm w_47 hB hz1 hk1 hS => ?_)
              have hP := pu_keep hP hk1
              clear hk1 hz1 hvm hB ht hFc hPc hDc hKc
              refine lv_istore_n (lv' := [(1, .int r_48), (3, .int r_35), (2, .int r_32), (0, .ref g0)]) hx hb dX11_term_83 rfl hl (by decide) rfl (fun ls hl => ?_)
              refine lv_goto (tgt := 5) hx hb dX11_term_84 (by decide) ?_
              exact ih v_36 fa_37 k_38 r_48 _ _ ls (by omega) (by omega) hb_40 ea_41 es_v_36 hb_v_36 wd_42 sm_v_36 (ef_44.trans efz) hP hD hS (lv_sub hl [0, 3] rfl)
            · refine lv_iconst (v := 0) hx hb dX11_term_71 (by decide) ?_
              refine lv_goto (tgt := 83) hx hb dX11_term_72 (by decide) ?_
              refine lv_istore_n (lv' := [(1, .int 0), (3, .int r_35), (2, .int r_32), (0, .ref g0)]) hx hb dX11_term_83 rfl hl (by decide) rfl (fun ls hl => ?_)
              refine lv_goto (tgt := 5) hx hb dX11_term_84 (by decide) ?_
              exact ih v_36 fa_37 k_38 0 _ _ ls (by omega) (by omega) hb_40 ea_41 es_v_36 hb_v_36 wd_42 sm_v_36 (ef_44.trans efz) hP hD hS (lv_sub hl [0, 3] rfl)
          · refine lv_iload_n hx hb dX11_term_56 rfl (lv_at hl 2 rfl) ?_
            refine lv_i2l (v := (x : Int32).toInt64) hx hb dX11_term_57 rfl ?_
            refine lv_iload_n hx hb dX11_term_58 rfl (lv_at hl 0 rfl) ?_
            refine lv_i2l (v := (r_35 : Int32).toInt64) hx hb dX11_term_59 rfl ?_
            refine lv_lmul hx hb dX11_term_60 ?_
            have hFc : ∀ q, va_A [] H.size q → A q := pu_free hS hA
            have hPc := hP.sub (ws' := []) [] rfl
            have hDc := hD.sub (ws' := []) [] (by decide) rfl
            have hKc := hK.sub (tys' := []) [] rfl
            refine va_calli (va_runS (As := [.long (((x : Int32).toInt64) * ((r_35 : Int32).toInt64))]) (rest := []) ⟨hx, hb, hml, hown, hts⟩ (c_X11_held l dC dI H.size (((x : Int32).toInt64) * ((r_35 : Int32).toInt64))) (va_cwS 1 hts gX11_term_X11_held rfl rfl rfl (by decide +kernel) ⟨(Nat.le_of_ble_eq_true rfl), (Nat.le_of_ble_eq_true rfl)⟩) (pr_S hPc hKc hDc) rfl rfl hl.1 rfl (lv_room (Nat.le_of_ble_eq_true rfl)) dX11_term_61 ⟨(Nat.le_of_ble_eq_true rfl), (Nat.le_of_ble_eq_true rfl)⟩) hS (fun q _ h => hFc q h) hFc (fun r_50 u t H locs ht hvm w_49 hB hz1 hk1 hS => ?_)
            have hP := pu_keep hP hk1
            clear hk1 hz1 hvm hB ht hFc hPc hDc hKc
            refine lv_goto (tgt := 83) hx hb dX11_term_64 (by decide) ?_
            refine lv_istore_n (lv' := [(1, .int r_50), (3, .int r_35), (2, .int r_32), (0, .ref g0)]) hx hb dX11_term_83 rfl hl (by decide) rfl (fun ls hl => ?_)
            refine lv_goto (tgt := 5) hx hb dX11_term_84 (by decide) ?_
            exact ih v_36 fa_37 k_38 r_50 _ _ ls (by omega) (by omega) hb_40 ea_41 es_v_36 hb_v_36 wd_42 sm_v_36 (ef_44.trans efz) hP hD hS (lv_sub hl [0, 3] rfl)
        · refine lv_aload_n hx hb dX11_term_21 rfl (lv_at hl 1 rfl) ?_
          have hFc : ∀ q, va_A [] H.size q → A q := pu_free hS hA
          refine va_calli (va_runV (As := []) (rest := []) ⟨hx, hb, hml, hown, hts⟩ (c_X11_sign l dC dI H.size g0 pq cp z fz kz n hkn hn eaz esz hbz) (cwV 0 hts gX11_term_X11_sign rfl rfl rfl (by decide +kernel) ⟨(Nat.le_of_ble_eq_true rfl), (Nat.le_of_ble_eq_true rfl)⟩) (pr_V (r := (RX11, TX11, 63)) hP hK hD 0 11 rfl rfl) rfl rfl hl.1 rfl (lv_room (Nat.le_of_ble_eq_true rfl)) dX11_term_22 ⟨(Nat.le_of_ble_eq_true rfl), (Nat.le_of_ble_eq_true rfl)⟩) hS (fun q _ h => hFc q h) hFc (fun r_52 u t H locs ht hvm w_51 hB hz1 hk1 hS => ?_)
          have hP := pu_keep hP hk1
          clear hk1 hz1 hvm hB ht hFc
          refine lv_bipush (v := 47) hx hb dX11_term_25 (by decide) ?_
          refine lv_icmp_ne (tgt := 87) hx hb dX11_term_27 (by decide) (fun c_53 => ?_) (fun c_53 => ?_)
          · refine lv_iload_n hx hb dX11_term_87 rfl (lv_at hl 0 rfl) ?_
            exact W.iret (v := x) hx hb hr (fun t ht hW => ⟨⟨x, (z, fz), rfl, ⟨⟨kz, by omega, hkn, eaz, (Or.inr ⟨we_24, de_25⟩), smz⟩, efz⟩, ⟨by rw [ht]; exact hP, va_K.moved hW.alike hK, hD⟩⟩, hS.F ht⟩) hS.2.2 dX11_term_88
          · refine lv_aload_n hx hb dX11_term_30 rfl (lv_at hl 1 rfl) ?_
            have hFc : ∀ q, va_A [] H.size q → A q := pu_free hS hA
            refine va_calli (va_runV (As := []) (rest := []) ⟨hx, hb, hml, hown, hts⟩ (c_X11_sign l dC dI H.size g0 pq cp z fz kz n hkn hn eaz esz hbz) (cwV 0 hts gX11_term_X11_sign rfl rfl rfl (by decide +kernel) ⟨(Nat.le_of_ble_eq_true rfl), (Nat.le_of_ble_eq_true rfl)⟩) (pr_V (r := (RX11, TX11, 63)) hP hK hD 0 11 rfl rfl) rfl rfl hl.1 rfl (lv_room (Nat.le_of_ble_eq_true rfl)) dX11_term_31 ⟨(Nat.le_of_ble_eq_true rfl), (Nat.le_of_ble_eq_true rfl)⟩) hS (fun q _ h => hFc q h) hFc (fun r_55 u t H locs ht hvm w_54 hB hz1 hk1 hS => ?_)
            have hP := pu_keep hP hk1
            clear hk1 hz1 hvm hB ht hFc
            refine lv_istore_n (lv' := [(2, .int r_55), (1, .int x), (0, .ref g0)]) hx hb dX11_term_34 rfl hl (by decide) rfl (fun ls hl => ?_)
            refine lv_aload_n hx hb dX11_term_35 rfl (lv_at hl 2 rfl) ?_
            refine lv_dup hx hb dX11_term_36 rfl ?_
            refine va_get (D := (dC, dI)) (ci := 11) (v := .int (z 47)) (C := RX11) (T := TX11) (N := 63) hx hb hts in_wsX11_term_X11 hown hK hP 0 rfl rfl 47 (by decide) (hts (.fieldLink RX11 210 "ShipOfficeModel" "at" "I") iw_X11_term_2) (fun _ h9 => h9) rfl dX11_term_37 ?_
            refine lv_iconst (v := 1) hx hb dX11_term_40 (by decide) ?_
            refine lv_iadd hx hb dX11_term_41 ?_
            refine lv_topi (fun y ey => ?_)
            obtain rfl : y = nI (kz + 1) := ey.trans (by rw [eaz]; exact nI_1 _)
            refine va_put (D := (dC, dI)) (ci := 11) (v := .int (nI (kz + 1))) (ty := .int) (C := RX11) (T := TX11) (N := 63) hx hb hts in_wsX11_term_X11 tyX11 tyX11_ok nmX11 hown hK hP hD hS 0 rfl rfl 47 (by decide) (hts (.fieldLink RX11 210 "ShipOfficeModel" "at" "I") iw_X11_term_2) (fun _ h9 => h9) rfl (by decide +kernel) rfl rfl (Nat.le_of_ble_eq_true rfl) dX11_term_42 (fun H locs hP hD hS => ?_)
            have hP : va_P (dC, dI) vwCl (mW g0 pq cp (upd z 47 (nI (kz + 1))) fz) H := hP
            have hD : va_D A (mW g0 pq cp (upd z 47 (nI (kz + 1))) fz) := hD
            obtain ⟨z_56, ez_56⟩ : ∃ zq, zq = (upd z 47 (nI (kz + 1))) := ⟨_, rfl⟩
            rw [← ez_56] at hP hD
            have ea_z_56 : z_56 47 = nI (kz + 1) := by rw [ez_56]; rfl
            have es_z_56 : z_56 50 = nI n := by rw [ez_56]; exact esz
            have hb_z_56 : z_56 49 < 0 ∨ ∃ j : Nat, j ≤ 1740 ∧ z_56 49 = nI j := by rw [ez_56]; exact hbz
            have we_z_56 : z_56 51 = 1 := by rw [ez_56]; exact we_24
            have de_z_56 : z_56 48 = nI 4 := by rw [ez_56]; exact de_25
            have sm_z_56 : ∀ i, i ≠ 47 → i ≠ 48 → i ≠ 51 → z_56 i = v i := by intro i h1 h2 h3; rw [ez_56]; exact (if_neg h1).trans (smz i h1 h2 h3)
            have hkn_z_56 : (kz + 1) ≤ n := (w_51.resolve_left (fun h => absurd (c_53.symm.trans h) (by decide)))
            have hk0_z_56 : k ≤ (kz + 1) := by omega
            refine lv_aload_n hx hb dX11_term_45 rfl (lv_at hl 2 rfl) ?_
            have hFc := va_free (wc := (mW g0 pq cp z_56 fz)) hD hS hA (List.range 48) rfl
            refine va_calli (va_runV (As := []) (rest := []) ⟨hx, hb, hml, hown, hts⟩ (c_X11_unit_4 l dC dI H.size g0 pq cp z_56 fz (kz + 1) n hkn_z_56 hn ea_z_56 es_z_56 hb_z_56 we_z_56 de_z_56) (cwV 0 hts gX11_term_X11_unit rfl rfl rfl (by decide +kernel) ⟨(Nat.le_of_ble_eq_true rfl), (Nat.le_of_ble_eq_true rfl)⟩) (pr_V (r := (RX11, TX11, 63)) hP hK hD 0 11 rfl rfl) rfl rfl hl.1 rfl (lv_room (Nat.le_of_ble_eq_true rfl)) dX11_term_46 ⟨(Nat.le_of_ble_eq_true rfl), (Nat.le_of_ble_eq_true rfl)⟩) hS (fun q _ h => hFc q h) hFc (fun r_58 u t H locs ht hvm w_57 hB hz1 hk1 hS => ?_)
            obtain ⟨v_59, fa_60⟩ := u
            obtain ⟨hP1, hK1, hD1⟩ := hB
            rw [ht] at hP1
            have hP : va_P (dC, dI) vwCl (mW g0 pq cp v_59 fa_60) H := hP1
            have hD : va_D A (mW g0 pq cp v_59 fa_60) := hD1.weaken (fun _ _ _ h => hFc _ h)
            clear hP1 hK1 hD1 hk1 hz1 hvm ht hFc
            obtain ⟨⟨k_61, ha_62, hb_63, ea_64, wd_65, sm_66⟩, ef_67⟩ := w_57
            dsimp only at ea_64 wd_65 sm_66 ef_67
            have es_v_59 : v_59 50 = nI n := (sm_66 50 (by decide) (by decide) (by decide)).trans es_z_56
            have hb_v_59 : v_59 49 < 0 ∨ ∃ j : Nat, j ≤ 1740 ∧ v_59 49 = nI j := by rw [sm_66 49 (by decide) (by decide) (by decide)]; exact hb_z_56
            have sm_v_59 : ∀ i, i ≠ 47 → i ≠ 48 → i ≠ 51 → v_59 i = v i := fun i h1 h2 h3 => (sm_66 i h1 h2 h3).trans (sm_z_56 i h1 h2 h3)
            refine lv_istore_n (lv' := [(3, .int r_58), (2, .int r_55), (1, .int x), (0, .ref g0)]) hx hb dX11_term_49 rfl hl (by decide) rfl (fun ls hl => ?_)
            refine lv_iload_n hx hb dX11_term_50 rfl (lv_at hl 1 rfl) ?_
            refine lv_bipush (v := 42) hx hb dX11_term_51 (by decide) ?_
            refine lv_icmp_ne (tgt := 67) hx hb dX11_term_53 (by decide) (fun c_68 => ?_) (fun c_68 => ?_)
            · refine lv_iload_n hx hb dX11_term_67 rfl (lv_at hl 0 rfl) ?_
              refine lv_if_ne (tgt := 75) hx hb dX11_term_68 (by decide) (fun c_69 => ?_) (fun c_69 => ?_)
              · refine lv_iload_n hx hb dX11_term_75 rfl (lv_at hl 2 rfl) ?_
                refine lv_i2l (v := (x : Int32).toInt64) hx hb dX11_term_76 rfl ?_
                refine lv_iload_n hx hb dX11_term_77 rfl (lv_at hl 0 rfl) ?_
                refine lv_i2l (v := (r_58 : Int32).toInt64) hx hb dX11_term_78 rfl ?_
                refine lv_ldiv hx hb dX11_term_79 (wd_ne c_69) ?_
                have hFc : ∀ q, va_A [] H.size q → A q := pu_free hS hA
                have hPc := hP.sub (ws' := []) [] rfl
                have hDc := hD.sub (ws' := []) [] (by decide) rfl
                have hKc := hK.sub (tys' := []) [] rfl
                refine va_calli (va_runS (As := [.long (((x : Int32).toInt64) / ((r_58 : Int32).toInt64))]) (rest := []) ⟨hx, hb, hml, hown, hts⟩ (c_X11_held l dC dI H.size (((x : Int32).toInt64) / ((r_58 : Int32).toInt64))) (va_cwS 1 hts gX11_term_X11_held rfl rfl rfl (by decide +kernel) ⟨(Nat.le_of_ble_eq_true rfl), (Nat.le_of_ble_eq_true rfl)⟩) (pr_S hPc hKc hDc) rfl rfl hl.1 rfl (lv_room (Nat.le_of_ble_eq_true rfl)) dX11_term_80 ⟨(Nat.le_of_ble_eq_true rfl), (Nat.le_of_ble_eq_true rfl)⟩) hS (fun q _ h => hFc q h) hFc (fun r_71 u t H locs ht hvm w_70 hB hz1 hk1 hS => ?_)
                have hP := pu_keep hP hk1
                clear hk1 hz1 hvm hB ht hFc hPc hDc hKc
                refine lv_istore_n (lv' := [(1, .int r_71), (3, .int r_58), (2, .int r_55), (0, .ref g0)]) hx hb dX11_term_83 rfl hl (by decide) rfl (fun ls hl => ?_)
                refine lv_goto (tgt := 5) hx hb dX11_term_84 (by decide) ?_
                exact ih v_59 fa_60 k_61 r_71 _ _ ls (by omega) (by omega) hb_63 ea_64 es_v_59 hb_v_59 wd_65 sm_v_59 (ef_67.trans efz) hP hD hS (lv_sub hl [0, 3] rfl)
              · refine lv_iconst (v := 0) hx hb dX11_term_71 (by decide) ?_
                refine lv_goto (tgt := 83) hx hb dX11_term_72 (by decide) ?_
                refine lv_istore_n (lv' := [(1, .int 0), (3, .int r_58), (2, .int r_55), (0, .ref g0)]) hx hb dX11_term_83 rfl hl (by decide) rfl (fun ls hl => ?_)
                refine lv_goto (tgt := 5) hx hb dX11_term_84 (by decide) ?_
                exact ih v_59 fa_60 k_61 0 _ _ ls (by omega) (by omega) hb_63 ea_64 es_v_59 hb_v_59 wd_65 sm_v_59 (ef_67.trans efz) hP hD hS (lv_sub hl [0, 3] rfl)
            · refine lv_iload_n hx hb dX11_term_56 rfl (lv_at hl 2 rfl) ?_
              refine lv_i2l (v := (x : Int32).toInt64) hx hb dX11_term_57 rfl ?_
              refine lv_iload_n hx hb dX11_term_58 rfl (lv_at hl 0 rfl) ?_
              refine lv_i2l (v := (r_58 : Int32).toInt64) hx hb dX11_term_59 rfl ?_
              refine lv_lmul hx hb dX11_term_60 ?_
              have hFc : ∀ q, va_A [] H.size q → A q := pu_free hS hA
              have hPc := hP.sub (ws' := []) [] rfl
              have hDc := hD.sub (ws' := []) [] (by decide) rfl
              have hKc := hK.sub (tys' := []) [] rfl
              refine va_calli (va_runS (As := [.long (((x : Int32).toInt64) * ((r_58 : Int32).toInt64))]) (rest := []) ⟨hx, hb, hml, hown, hts⟩ (c_X11_held l dC dI H.size (((x : Int32).toInt64) * ((r_58 : Int32).toInt64))) (va_cwS 1 hts gX11_term_X11_held rfl rfl rfl (by decide +kernel) ⟨(Nat.le_of_ble_eq_true rfl), (Nat.le_of_ble_eq_true rfl)⟩) (pr_S hPc hKc hDc) rfl rfl hl.1 rfl (lv_room (Nat.le_of_ble_eq_true rfl)) dX11_term_61 ⟨(Nat.le_of_ble_eq_true rfl), (Nat.le_of_ble_eq_true rfl)⟩) hS (fun q _ h => hFc q h) hFc (fun r_73 u t H locs ht hvm w_72 hB hz1 hk1 hS => ?_)
              have hP := pu_keep hP hk1
              clear hk1 hz1 hvm hB ht hFc hPc hDc hKc
              refine lv_goto (tgt := 83) hx hb dX11_term_64 (by decide) ?_
              refine lv_istore_n (lv' := [(1, .int r_73), (3, .int r_58), (2, .int r_55), (0, .ref g0)]) hx hb dX11_term_83 rfl hl (by decide) rfl (fun ls hl => ?_)
              refine lv_goto (tgt := 5) hx hb dX11_term_84 (by decide) ?_
              exact ih v_59 fa_60 k_61 r_73 _ _ ls (by omega) (by omega) hb_63 ea_64 es_v_59 hb_v_59 wd_65 sm_v_59 (ef_67.trans efz) hP hD hS (lv_sub hl [0, 3] rfl)
  exact hloop n v_3 fa_4 k_5 r_2 _ _ ls (by omega) (by omega) hb_7 ea_8 es_v_3 hb_v_3 wd_9 sm_v_3 ef_11 hP hD hS (lv_sub hl [0, 1] rfl)
set_option maxHeartbeats 4000000 in
set_option maxRecDepth 100000 in
theorem c_X11_sum_4 (l : Launch) (dC : Nat → ClassId) (dI : Nat → Nat → Nat) (sz : Nat) (g0 : Nat) (pq : Nat → Nat) (cp : Nat → ClassId) (v : Nat → Int32) (fa : Nat → Nat → Int32) (k n : Nat) (hk : k ≤ n) (hn : n ≤ 60) (ea : v 47 = nI k) (es : v 50 = nI n) (hb0 : v 49 < 0 ∨ ∃ j : Nat, j ≤ 1740 ∧ v 49 = nI j) (hwe : v 51 = 1) (hde : v 48 = nI 4) : Met l yX11_sum wsX11_sum ({ frames := 6, cells := 0, slots := 0, locals := 138 }) (va_Pc [.ref g0] (pcW (dC, dI) (mT cp) (mW g0 pq cp v fa) sz)) (va_Qi (fun (r : Int32) (u : (Nat → Int32) × (Nat → Nat → Int32)) => pz v k n 4 u.1 ∧ u.2 = fa) (fun u t => va_P (dC, dI) vwCl (mW g0 pq cp u.1 u.2) t.heap ∧ va_K (dC, dI) vwCl (mT cp) t ∧ va_D (va_A (mW g0 pq cp v fa) sz) (mW g0 pq cp u.1 u.2)) (va_A (mW g0 pq cp v fa) sz)) 0 0 (va_A (mW g0 pq cp v fa) sz) := by
  refine Met.ofW (cc := cX11_sum) (maxL := 4) (ret := (some .int)) (by decide) rfl ?_
  intro p e s m args below meth c s₁ B hml hv
  obtain ⟨rfl, hsz, hP, hK, hD0⟩ := hv
  have hx := B.exec
  have hb := B.bytes
  have hr := B.returns
  have hts := atoms_spec (ws := wsX11_sum) B.pre
  have hown : s.vm.findClass RX11 = some m.cls := findClass_of_methodNamed B.named
  have hlocks := B.notSynchronized
  subst hsz
  have hD := hD0.self (sz := s.heap.size)
  generalize hAe : va_A (mW g0 pq cp v fa) s.heap.size = A at hD ⊢
  have hA : ∀ q : Nat, s.heap.size ≤ q → A q := fun q h => by rw [← hAe]; exact Or.inr h
  have hS : va_S A s.heap s.heap [] := va_S.rf
  have hP : va_P (dC, dI) vwCl (mW g0 pq cp v fa) s.heap := hP
  have hl := lv_entry ([.ref g0]) (n := 4) (Nat.le_of_ble_eq_true rfl)
  rw [lg_entry_eq]
  generalize (lg_sl ([.ref g0]) ++ List.replicate (4 - (lg_sl ([.ref g0])).length) Slot.unset).toArray = ls at hl ⊢
  have hl : lv_has ls 4 [(0, .ref g0)] := hl
  refine lv_aload_n hx hb dX11_sum_0 rfl (lv_at hl 0 rfl) ?_
  have hFc := va_free (wc := (mW g0 pq cp v fa)) hD hS hA (List.range 48) rfl
  refine va_calli (va_runV (As := []) (rest := []) ⟨hx, hb, hml, hown, hts⟩ (c_X11_term_4 l dC dI s.heap.size g0 pq cp v fa k n hk hn ea es hb0 hwe hde) (cwV 0 hts gX11_sum_X11_term rfl rfl rfl (by decide +kernel) ⟨(Nat.le_of_ble_eq_true rfl), (Nat.le_of_ble_eq_true rfl)⟩) (pr_V (r := (RX11, TX11, 63)) hP hK hD 0 11 rfl rfl) rfl rfl hl.1 rfl (lv_room (Nat.le_of_ble_eq_true rfl)) dX11_sum_1 ⟨(Nat.le_of_ble_eq_true rfl), (Nat.le_of_ble_eq_true rfl)⟩) hS (fun q _ h => hFc q h) hFc (fun r_2 u t H locs ht hvm w_1 hB hz1 hk1 hS => ?_)
  obtain ⟨v_3, fa_4⟩ := u
  obtain ⟨hP1, hK1, hD1⟩ := hB
  rw [ht] at hP1
  have hP : va_P (dC, dI) vwCl (mW g0 pq cp v_3 fa_4) H := hP1
  have hD : va_D A (mW g0 pq cp v_3 fa_4) := hD1.weaken (fun _ _ _ h => hFc _ h)
  clear hP1 hK1 hD1 hk1 hz1 hvm ht hFc
  obtain ⟨⟨k_5, ha_6, hb_7, ea_8, wd_9, sm_10⟩, ef_11⟩ := w_1
  dsimp only at ea_8 wd_9 sm_10 ef_11
  have es_v_3 : v_3 50 = nI n := (sm_10 50 (by decide) (by decide) (by decide)).trans es
  have hb_v_3 : v_3 49 < 0 ∨ ∃ j : Nat, j ≤ 1740 ∧ v_3 49 = nI j := by rw [sm_10 49 (by decide) (by decide) (by decide)]; exact hb0
  have sm_v_3 : ∀ i, i ≠ 47 → i ≠ 48 → i ≠ 51 → v_3 i = v i := fun i h1 h2 h3 => (sm_10 i h1 h2 h3).trans ((fun i _ _ _ => rfl) i h1 h2 h3)
  refine lv_istore_n (lv' := [(1, .int r_2), (0, .ref g0)]) hx hb dX11_sum_4 rfl hl (by decide) rfl (fun ls hl => ?_)
  have hloop : ∀ (N : Nat) (z : Nat → Int32) (fz : Nat → Nat → Int32) (kz : Nat) (x : Int32) (H : Heap) (locs : List Loc) (ls : Array Slot), n ≤ kz + N → k ≤ kz → kz ≤ n → z 47 = nI kz → z 50 = nI n → (z 49 < 0 ∨ ∃ j : Nat, j ≤ 1740 ∧ z 49 = nI j) → (z 51 = 0 ∨ (z 51 = 1 ∧ z 48 = nI 4)) → (∀ i, i ≠ 47 → i ≠ 48 → i ≠ 51 → z i = v i) → fz = fa → va_P (dC, dI) vwCl (mW g0 pq cp z fz) H → va_D A (mW g0 pq cp z fz) → va_S A s.heap H locs → lv_has ls 4 [(1, .int x), (0, .ref g0)] → W p l e (headSpec wsX11_sum { frames := 6, cells := 0, slots := 0, locals := 138 }).room s m #[Value.ref g0] below meth c H locs 0 0 (MQ below (va_Qi (fun (r : Int32) (u : (Nat → Int32) × (Nat → Nat → Int32)) => pz v k n 4 u.1 ∧ u.2 = fa) (fun u t => va_P (dC, dI) vwCl (mW g0 pq cp u.1 u.2) t.heap ∧ va_K (dC, dI) vwCl (mT cp) t ∧ va_D A (mW g0 pq cp u.1 u.2)) A) #[Value.ref g0] s 0 0 A) (F0 m 5 ls []) := by
    intro N
    induction N with
    | zero =>
      intro z fz kz x H locs ls hN hk0 hkn eaz esz hbz wdz smz efz hP hD hS hl
      refine lv_aload_n hx hb dX11_sum_5 rfl (lv_at hl 1 rfl) ?_
      rcases wdz with we_12 | ⟨we_13, de_14⟩
      · refine va_get (D := (dC, dI)) (ci := 11) (v := .int (z 51)) (C := RX11) (T := TX11) (N := 63) hx hb hts in_wsX11_sum_X11 hown hK hP 0 rfl rfl 51 (by decide) (hts (.fieldLink RX11 223 "ShipOfficeModel" "isWell" "Z") iw_X11_sum_1) (fun _ h9 => h9) rfl dX11_sum_6 ?_
        refine lv_topi (fun y ey => ?_)
        obtain rfl : y = 0 := ey.trans (we_12.trans (by decide))
        refine lv_if_eq (tgt := 76) hx hb dX11_sum_9 (by decide) (fun _ => ?_) (fun c_15 => absurd c_15 (by decide))
        refine lv_iload_n hx hb dX11_sum_76 rfl (lv_at hl 0 rfl) ?_
        exact W.iret (v := x) hx hb hr (fun t ht hW => ⟨⟨x, (z, fz), rfl, ⟨⟨kz, by omega, hkn, eaz, (Or.inl we_12), smz⟩, efz⟩, ⟨by rw [ht]; exact hP, va_K.moved hW.alike hK, hD⟩⟩, hS.F ht⟩) hS.2.2 dX11_sum_77
      · refine va_get (D := (dC, dI)) (ci := 11) (v := .int (z 51)) (C := RX11) (T := TX11) (N := 63) hx hb hts in_wsX11_sum_X11 hown hK hP 0 rfl rfl 51 (by decide) (hts (.fieldLink RX11 223 "ShipOfficeModel" "isWell" "Z") iw_X11_sum_1) (fun _ h9 => h9) rfl dX11_sum_6 ?_
        refine lv_topi (fun y ey => ?_)
        obtain rfl : y = 1 := ey.trans (we_13.trans (by decide))
        refine lv_if_eq (tgt := 76) hx hb dX11_sum_9 (by decide) (fun c_16 => absurd c_16 (by decide)) (fun _ => ?_)
        refine lv_aload_n hx hb dX11_sum_12 rfl (lv_at hl 1 rfl) ?_
        have hFc : ∀ q, va_A [] H.size q → A q := pu_free hS hA
        refine va_calli (va_runV (As := []) (rest := []) ⟨hx, hb, hml, hown, hts⟩ (c_X11_sign l dC dI H.size g0 pq cp z fz kz n hkn hn eaz esz hbz) (cwV 0 hts gX11_sum_X11_sign rfl rfl rfl (by decide +kernel) ⟨(Nat.le_of_ble_eq_true rfl), (Nat.le_of_ble_eq_true rfl)⟩) (pr_V (r := (RX11, TX11, 63)) hP hK hD 0 11 rfl rfl) rfl rfl hl.1 rfl (lv_room (Nat.le_of_ble_eq_true rfl)) dX11_sum_13 ⟨(Nat.le_of_ble_eq_true rfl), (Nat.le_of_ble_eq_true rfl)⟩) hS (fun q _ h => hFc q h) hFc (fun r_18 u t H locs ht hvm w_17 hB hz1 hk1 hS => ?_)
        have hP := pu_keep hP hk1
        clear hk1 hz1 hvm hB ht hFc
        refine lv_bipush (v := 43) hx hb dX11_sum_16 (by decide) ?_
        refine lv_icmp_eq (tgt := 30) hx hb dX11_sum_18 (by decide) (fun c_19 => ?_) (fun c_19 => ?_)
        · have hlt : kz < n := (w_17.resolve_left (fun h => absurd (c_19.symm.trans h) (by decide)))
          exact absurd hlt (by omega)
        · refine lv_aload_n hx hb dX11_sum_21 rfl (lv_at hl 1 rfl) ?_
          have hFc : ∀ q, va_A [] H.size q → A q := pu_free hS hA
          refine va_calli (va_runV (As := []) (rest := []) ⟨hx, hb, hml, hown, hts⟩ (c_X11_sign l dC dI H.size g0 pq cp z fz kz n hkn hn eaz esz hbz) (cwV 0 hts gX11_sum_X11_sign rfl rfl rfl (by decide +kernel) ⟨(Nat.le_of_ble_eq_true rfl), (Nat.le_of_ble_eq_true rfl)⟩) (pr_V (r := (RX11, TX11, 63)) hP hK hD 0 11 rfl rfl) rfl rfl hl.1 rfl (lv_room (Nat.le_of_ble_eq_true rfl)) dX11_sum_22 ⟨(Nat.le_of_ble_eq_true rfl), (Nat.le_of_ble_eq_true rfl)⟩) hS (fun q _ h => hFc q h) hFc (fun r_21 u t H locs ht hvm w_20 hB hz1 hk1 hS => ?_)
          have hP := pu_keep hP hk1
          clear hk1 hz1 hvm hB ht hFc
          refine lv_bipush (v := 45) hx hb dX11_sum_25 (by decide) ?_
          refine lv_icmp_ne (tgt := 76) hx hb dX11_sum_27 (by decide) (fun c_22 => ?_) (fun c_22 => ?_)
          · refine lv_iload_n hx hb dX11_sum_76 rfl (lv_at hl 0 rfl) ?_
            exact W.iret (v := x) hx hb hr (fun t ht hW => ⟨⟨x, (z, fz), rfl, ⟨⟨kz, by omega, hkn, eaz, (Or.inr ⟨we_13, de_14⟩), smz⟩, efz⟩, ⟨by rw [ht]; exact hP, va_K.moved hW.alike hK, hD⟩⟩, hS.F ht⟩) hS.2.2 dX11_sum_77
          · have hlt : kz < n := (w_20.resolve_left (fun h => absurd (c_22.symm.trans h) (by decide)))
            exact absurd hlt (by omega)
    | succ N ih =>
      intro z fz kz x H locs ls hN hk0 hkn eaz esz hbz wdz smz efz hP hD hS hl
      refine lv_aload_n hx hb dX11_sum_5 rfl (lv_at hl 1 rfl) ?_
      rcases wdz with we_23 | ⟨we_24, de_25⟩
      · refine va_get (D := (dC, dI)) (ci := 11) (v := .int (z 51)) (C := RX11) (T := TX11) (N := 63) hx hb hts in_wsX11_sum_X11 hown hK hP 0 rfl rfl 51 (by decide) (hts (.fieldLink RX11 223 "ShipOfficeModel" "isWell" "Z") iw_X11_sum_1) (fun _ h9 => h9) rfl dX11_sum_6 ?_
        refine lv_topi (fun y ey => ?_)
        obtain rfl : y = 0 := ey.trans (we_23.trans (by decide))
        refine lv_if_eq (tgt := 76) hx hb dX11_sum_9 (by decide) (fun _ => ?_) (fun c_26 => absurd c_26 (by decide))
        refine lv_iload_n hx hb dX11_sum_76 rfl (lv_at hl 0 rfl) ?_
        exact W.iret (v := x) hx hb hr (fun t ht hW => ⟨⟨x, (z, fz), rfl, ⟨⟨kz, by omega, hkn, eaz, (Or.inl we_23), smz⟩, efz⟩, ⟨by rw [ht]; exact hP, va_K.moved hW.alike hK, hD⟩⟩, hS.F ht⟩) hS.2.2 dX11_sum_77
      · refine va_get (D := (dC, dI)) (ci := 11) (v := .int (z 51)) (C := RX11) (T := TX11) (N := 63) hx hb hts in_wsX11_sum_X11 hown hK hP 0 rfl rfl 51 (by decide) (hts (.fieldLink RX11 223 "ShipOfficeModel" "isWell" "Z") iw_X11_sum_1) (fun _ h9 => h9) rfl dX11_sum_6 ?_
        refine lv_topi (fun y ey => ?_)
        obtain rfl : y = 1 := ey.trans (we_24.trans (by decide))
        refine lv_if_eq (tgt := 76) hx hb dX11_sum_9 (by decide) (fun c_27 => absurd c_27 (by decide)) (fun _ => ?_)
        refine lv_aload_n hx hb dX11_sum_12 rfl (lv_at hl 1 rfl) ?_
        have hFc : ∀ q, va_A [] H.size q → A q := pu_free hS hA
        refine va_calli (va_runV (As := []) (rest := []) ⟨hx, hb, hml, hown, hts⟩ (c_X11_sign l dC dI H.size g0 pq cp z fz kz n hkn hn eaz esz hbz) (cwV 0 hts gX11_sum_X11_sign rfl rfl rfl (by decide +kernel) ⟨(Nat.le_of_ble_eq_true rfl), (Nat.le_of_ble_eq_true rfl)⟩) (pr_V (r := (RX11, TX11, 63)) hP hK hD 0 11 rfl rfl) rfl rfl hl.1 rfl (lv_room (Nat.le_of_ble_eq_true rfl)) dX11_sum_13 ⟨(Nat.le_of_ble_eq_true rfl), (Nat.le_of_ble_eq_true rfl)⟩) hS (fun q _ h => hFc q h) hFc (fun r_29 u t H locs ht hvm w_28 hB hz1 hk1 hS => ?_)
        have hP := pu_keep hP hk1
        clear hk1 hz1 hvm hB ht hFc
        refine lv_bipush (v := 43) hx hb dX11_sum_16 (by decide) ?_
        refine lv_icmp_eq (tgt := 30) hx hb dX11_sum_18 (by decide) (fun c_30 => ?_) (fun c_30 => ?_)
        · refine lv_aload_n hx hb dX11_sum_30 rfl (lv_at hl 1 rfl) ?_
          have hFc : ∀ q, va_A [] H.size q → A q := pu_free hS hA
          refine va_calli (va_runV (As := []) (rest := []) ⟨hx, hb, hml, hown, hts⟩ (c_X11_sign l dC dI H.size g0 pq cp z fz kz n hkn hn eaz esz hbz) (cwV 0 hts gX11_sum_X11_sign rfl rfl rfl (by decide +kernel) ⟨(Nat.le_of_ble_eq_true rfl), (Nat.le_of_ble_eq_true rfl)⟩) (pr_V (r := (RX11, TX11, 63)) hP hK hD 0 11 rfl rfl) rfl rfl hl.1 rfl (lv_room (Nat.le_of_ble_eq_true rfl)) dX11_sum_31 ⟨(Nat.le_of_ble_eq_true rfl), (Nat.le_of_ble_eq_true rfl)⟩) hS (fun q _ h => hFc q h) hFc (fun r_32 u t H locs ht hvm w_31 hB hz1 hk1 hS => ?_)
          have hP := pu_keep hP hk1
          clear hk1 hz1 hvm hB ht hFc
          refine lv_istore_n (lv' := [(2, .int r_32), (1, .int x), (0, .ref g0)]) hx hb dX11_sum_34 rfl hl (by decide) rfl (fun ls hl => ?_)
          refine lv_aload_n hx hb dX11_sum_35 rfl (lv_at hl 2 rfl) ?_
          refine lv_dup hx hb dX11_sum_36 rfl ?_
          refine va_get (D := (dC, dI)) (ci := 11) (v := .int (z 47)) (C := RX11) (T := TX11) (N := 63) hx hb hts in_wsX11_sum_X11 hown hK hP 0 rfl rfl 47 (by decide) (hts (.fieldLink RX11 210 "ShipOfficeModel" "at" "I") iw_X11_sum_2) (fun _ h9 => h9) rfl dX11_sum_37 ?_
          refine lv_iconst (v := 1) hx hb dX11_sum_40 (by decide) ?_
          refine lv_iadd hx hb dX11_sum_41 ?_
          refine lv_topi (fun y ey => ?_)
          obtain rfl : y = nI (kz + 1) := ey.trans (by rw [eaz]; exact nI_1 _)
          refine va_put (D := (dC, dI)) (ci := 11) (v := .int (nI (kz + 1))) (ty := .int) (C := RX11) (T := TX11) (N := 63) hx hb hts in_wsX11_sum_X11 tyX11 tyX11_ok nmX11 hown hK hP hD hS 0 rfl rfl 47 (by decide) (hts (.fieldLink RX11 210 "ShipOfficeModel" "at" "I") iw_X11_sum_2) (fun _ h9 => h9) rfl (by decide +kernel) rfl rfl (Nat.le_of_ble_eq_true rfl) dX11_sum_42 (fun H locs hP hD hS => ?_)
          have hP : va_P (dC, dI) vwCl (mW g0 pq cp (upd z 47 (nI (kz + 1))) fz) H := hP
          have hD : va_D A (mW g0 pq cp (upd z 47 (nI (kz + 1))) fz) := hD
          obtain ⟨z_33, ez_33⟩ : ∃ zq, zq = (upd z 47 (nI (kz + 1))) := ⟨_, rfl⟩
          rw [← ez_33] at hP hD
          have ea_z_33 : z_33 47 = nI (kz + 1) := by rw [ez_33]; rfl
          have es_z_33 : z_33 50 = nI n := by rw [ez_33]; exact esz
          have hb_z_33 : z_33 49 < 0 ∨ ∃ j : Nat, j ≤ 1740 ∧ z_33 49 = nI j := by rw [ez_33]; exact hbz
          have we_z_33 : z_33 51 = 1 := by rw [ez_33]; exact we_24
          have de_z_33 : z_33 48 = nI 4 := by rw [ez_33]; exact de_25
          have sm_z_33 : ∀ i, i ≠ 47 → i ≠ 48 → i ≠ 51 → z_33 i = v i := by intro i h1 h2 h3; rw [ez_33]; exact (if_neg h1).trans (smz i h1 h2 h3)
          have hkn_z_33 : (kz + 1) ≤ n := (w_28.resolve_left (fun h => absurd (c_30.symm.trans h) (by decide)))
          have hk0_z_33 : k ≤ (kz + 1) := by omega
          refine lv_aload_n hx hb dX11_sum_45 rfl (lv_at hl 2 rfl) ?_
          have hFc := va_free (wc := (mW g0 pq cp z_33 fz)) hD hS hA (List.range 48) rfl
          refine va_calli (va_runV (As := []) (rest := []) ⟨hx, hb, hml, hown, hts⟩ (c_X11_term_4 l dC dI H.size g0 pq cp z_33 fz (kz + 1) n hkn_z_33 hn ea_z_33 es_z_33 hb_z_33 we_z_33 de_z_33) (cwV 0 hts gX11_sum_X11_term rfl rfl rfl (by decide +kernel) ⟨(Nat.le_of_ble_eq_true rfl), (Nat.le_of_ble_eq_true rfl)⟩) (pr_V (r := (RX11, TX11, 63)) hP hK hD 0 11 rfl rfl) rfl rfl hl.1 rfl (lv_room (Nat.le_of_ble_eq_true rfl)) dX11_sum_46 ⟨(Nat.le_of_ble_eq_true rfl), (Nat.le_of_ble_eq_true rfl)⟩) hS (fun q _ h => hFc q h) hFc (fun r_35 u t H locs ht hvm w_34 hB hz1 hk1 hS => ?_)
          obtain ⟨v_36, fa_37⟩ := u
          obtain ⟨hP1, hK1, hD1⟩ := hB
          rw [ht] at hP1
          have hP : va_P (dC, dI) vwCl (mW g0 pq cp v_36 fa_37) H := hP1
          have hD : va_D A (mW g0 pq cp v_36 fa_37) := hD1.weaken (fun _ _ _ h => hFc _ h)
          clear hP1 hK1 hD1 hk1 hz1 hvm ht hFc
          obtain ⟨⟨k_38, ha_39, hb_40, ea_41, wd_42, sm_43⟩, ef_44⟩ := w_34
          dsimp only at ea_41 wd_42 sm_43 ef_44
          have es_v_36 : v_36 50 = nI n := (sm_43 50 (by decide) (by decide) (by decide)).trans es_z_33
          have hb_v_36 : v_36 49 < 0 ∨ ∃ j : Nat, j ≤ 1740 ∧ v_36 49 = nI j := by rw [sm_43 49 (by decide) (by decide) (by decide)]; exact hb_z_33
          have sm_v_36 : ∀ i, i ≠ 47 → i ≠ 48 → i ≠ 51 → v_36 i = v i := fun i h1 h2 h3 => (sm_43 i h1 h2 h3).trans (sm_z_33 i h1 h2 h3)
          refine lv_istore_n (lv' := [(3, .int r_35), (2, .int r_32), (1, .int x), (0, .ref g0)]) hx hb dX11_sum_49 rfl hl (by decide) rfl (fun ls hl => ?_)
          refine lv_iload_n hx hb dX11_sum_50 rfl (lv_at hl 1 rfl) ?_
          refine lv_bipush (v := 43) hx hb dX11_sum_51 (by decide) ?_
          refine lv_icmp_ne (tgt := 64) hx hb dX11_sum_53 (by decide) (fun c_45 => ?_) (fun c_45 => ?_)
          · refine lv_iload_n hx hb dX11_sum_64 rfl (lv_at hl 2 rfl) ?_
            refine lv_i2l (v := (x : Int32).toInt64) hx hb dX11_sum_65 rfl ?_
            refine lv_iload_n hx hb dX11_sum_66 rfl (lv_at hl 0 rfl) ?_
            refine lv_i2l (v := (r_35 : Int32).toInt64) hx hb dX11_sum_67 rfl ?_
            refine lv_lsub hx hb dX11_sum_68 ?_
            have hFc : ∀ q, va_A [] H.size q → A q := pu_free hS hA
            have hPc := hP.sub (ws' := []) [] rfl
            have hDc := hD.sub (ws' := []) [] (by decide) rfl
            have hKc := hK.sub (tys' := []) [] rfl
            refine va_calli (va_runS (As := [.long (((x : Int32).toInt64) - ((r_35 : Int32).toInt64))]) (rest := []) ⟨hx, hb, hml, hown, hts⟩ (c_X11_held l dC dI H.size (((x : Int32).toInt64) - ((r_35 : Int32).toInt64))) (va_cwS 1 hts gX11_sum_X11_held rfl rfl rfl (by decide +kernel) ⟨(Nat.le_of_ble_eq_true rfl), (Nat.le_of_ble_eq_true rfl)⟩) (pr_S hPc hKc hDc) rfl rfl hl.1 rfl (lv_room (Nat.le_of_ble_eq_true rfl)) dX11_sum_69 ⟨(Nat.le_of_ble_eq_true rfl), (Nat.le_of_ble_eq_true rfl)⟩) hS (fun q _ h => hFc q h) hFc (fun r_47 u t H locs ht hvm w_46 hB hz1 hk1 hS => ?_)
            have hP := pu_keep hP hk1
            clear hk1 hz1 hvm hB ht hFc hPc hDc hKc
            refine lv_istore_n (lv' := [(1, .int r_47), (3, .int r_35), (2, .int r_32), (0, .ref g0)]) hx hb dX11_sum_72 rfl hl (by decide) rfl (fun ls hl => ?_)
            refine lv_goto (tgt := 5) hx hb dX11_sum_73 (by decide) ?_
            exact ih v_36 fa_37 k_38 r_47 _ _ ls (by omega) (by omega) hb_40 ea_41 es_v_36 hb_v_36 wd_42 sm_v_36 (ef_44.trans efz) hP hD hS (lv_sub hl [0, 3] rfl)
          · refine lv_iload_n hx hb dX11_sum_56 rfl (lv_at hl 2 rfl) ?_
            refine lv_i2l (v := (x : Int32).toInt64) hx hb dX11_sum_57 rfl ?_
            refine lv_iload_n hx hb dX11_sum_58 rfl (lv_at hl 0 rfl) ?_
            refine lv_i2l (v := (r_35 : Int32).toInt64) hx hb dX11_sum_59 rfl ?_
            refine lv_ladd hx hb dX11_sum_60 ?_
            refine lv_goto (tgt := 69) hx hb dX11_sum_61 (by decide) ?_
            have hFc : ∀ q, va_A [] H.size q → A q := pu_free hS hA
            have hPc := hP.sub (ws' := []) [] rfl
            have hDc := hD.sub (ws' := []) [] (by decide) rfl
            have hKc := hK.sub (tys' := []) [] rfl
            refine va_calli (va_runS (As := [.long (((x : Int32).toInt64) + ((r_35 : Int32).toInt64))]) (rest := []) ⟨hx, hb, hml, hown, hts⟩ (c_X11_held l dC dI H.size (((x : Int32).toInt64) + ((r_35 : Int32).toInt64))) (va_cwS 1 hts gX11_sum_X11_held rfl rfl rfl (by decide +kernel) ⟨(Nat.le_of_ble_eq_true rfl), (Nat.le_of_ble_eq_true rfl)⟩) (pr_S hPc hKc hDc) rfl rfl hl.1 rfl (lv_room (Nat.le_of_ble_eq_true rfl)) dX11_sum_69 ⟨(Nat.le_of_ble_eq_true rfl), (Nat.le_of_ble_eq_true rfl)⟩) hS (fun q _ h => hFc q h) hFc (fun r_49 u t H locs ht hvm w_48 hB hz1 hk1 hS => ?_)
            have hP := pu_keep hP hk1
            clear hk1 hz1 hvm hB ht hFc hPc hDc hKc
            refine lv_istore_n (lv' := [(1, .int r_49), (3, .int r_35), (2, .int r_32), (0, .ref g0)]) hx hb dX11_sum_72 rfl hl (by decide) rfl (fun ls hl => ?_)
            refine lv_goto (tgt := 5) hx hb dX11_sum_73 (by decide) ?_
            exact ih v_36 fa_37 k_38 r_49 _ _ ls (by omega) (by omega) hb_40 ea_41 es_v_36 hb_v_36 wd_42 sm_v_36 (ef_44.trans efz) hP hD hS (lv_sub hl [0, 3] rfl)
        · refine lv_aload_n hx hb dX11_sum_21 rfl (lv_at hl 1 rfl) ?_
          have hFc : ∀ q, va_A [] H.size q → A q := pu_free hS hA
          refine va_calli (va_runV (As := []) (rest := []) ⟨hx, hb, hml, hown, hts⟩ (c_X11_sign l dC dI H.size g0 pq cp z fz kz n hkn hn eaz esz hbz) (cwV 0 hts gX11_sum_X11_sign rfl rfl rfl (by decide +kernel) ⟨(Nat.le_of_ble_eq_true rfl), (Nat.le_of_ble_eq_true rfl)⟩) (pr_V (r := (RX11, TX11, 63)) hP hK hD 0 11 rfl rfl) rfl rfl hl.1 rfl (lv_room (Nat.le_of_ble_eq_true rfl)) dX11_sum_22 ⟨(Nat.le_of_ble_eq_true rfl), (Nat.le_of_ble_eq_true rfl)⟩) hS (fun q _ h => hFc q h) hFc (fun r_51 u t H locs ht hvm w_50 hB hz1 hk1 hS => ?_)
          have hP := pu_keep hP hk1
          clear hk1 hz1 hvm hB ht hFc
          refine lv_bipush (v := 45) hx hb dX11_sum_25 (by decide) ?_
          refine lv_icmp_ne (tgt := 76) hx hb dX11_sum_27 (by decide) (fun c_52 => ?_) (fun c_52 => ?_)
          · refine lv_iload_n hx hb dX11_sum_76 rfl (lv_at hl 0 rfl) ?_
            exact W.iret (v := x) hx hb hr (fun t ht hW => ⟨⟨x, (z, fz), rfl, ⟨⟨kz, by omega, hkn, eaz, (Or.inr ⟨we_24, de_25⟩), smz⟩, efz⟩, ⟨by rw [ht]; exact hP, va_K.moved hW.alike hK, hD⟩⟩, hS.F ht⟩) hS.2.2 dX11_sum_77
          · refine lv_aload_n hx hb dX11_sum_30 rfl (lv_at hl 1 rfl) ?_
            have hFc : ∀ q, va_A [] H.size q → A q := pu_free hS hA
            refine va_calli (va_runV (As := []) (rest := []) ⟨hx, hb, hml, hown, hts⟩ (c_X11_sign l dC dI H.size g0 pq cp z fz kz n hkn hn eaz esz hbz) (cwV 0 hts gX11_sum_X11_sign rfl rfl rfl (by decide +kernel) ⟨(Nat.le_of_ble_eq_true rfl), (Nat.le_of_ble_eq_true rfl)⟩) (pr_V (r := (RX11, TX11, 63)) hP hK hD 0 11 rfl rfl) rfl rfl hl.1 rfl (lv_room (Nat.le_of_ble_eq_true rfl)) dX11_sum_31 ⟨(Nat.le_of_ble_eq_true rfl), (Nat.le_of_ble_eq_true rfl)⟩) hS (fun q _ h => hFc q h) hFc (fun r_54 u t H locs ht hvm w_53 hB hz1 hk1 hS => ?_)
            have hP := pu_keep hP hk1
            clear hk1 hz1 hvm hB ht hFc
            refine lv_istore_n (lv' := [(2, .int r_54), (1, .int x), (0, .ref g0)]) hx hb dX11_sum_34 rfl hl (by decide) rfl (fun ls hl => ?_)
            refine lv_aload_n hx hb dX11_sum_35 rfl (lv_at hl 2 rfl) ?_
            refine lv_dup hx hb dX11_sum_36 rfl ?_
            refine va_get (D := (dC, dI)) (ci := 11) (v := .int (z 47)) (C := RX11) (T := TX11) (N := 63) hx hb hts in_wsX11_sum_X11 hown hK hP 0 rfl rfl 47 (by decide) (hts (.fieldLink RX11 210 "ShipOfficeModel" "at" "I") iw_X11_sum_2) (fun _ h9 => h9) rfl dX11_sum_37 ?_
            refine lv_iconst (v := 1) hx hb dX11_sum_40 (by decide) ?_
            refine lv_iadd hx hb dX11_sum_41 ?_
            refine lv_topi (fun y ey => ?_)
            obtain rfl : y = nI (kz + 1) := ey.trans (by rw [eaz]; exact nI_1 _)
            refine va_put (D := (dC, dI)) (ci := 11) (v := .int (nI (kz + 1))) (ty := .int) (C := RX11) (T := TX11) (N := 63) hx hb hts in_wsX11_sum_X11 tyX11 tyX11_ok nmX11 hown hK hP hD hS 0 rfl rfl 47 (by decide) (hts (.fieldLink RX11 210 "ShipOfficeModel" "at" "I") iw_X11_sum_2) (fun _ h9 => h9) rfl (by decide +kernel) rfl rfl (Nat.le_of_ble_eq_true rfl) dX11_sum_42 (fun H locs hP hD hS => ?_)
            have hP : va_P (dC, dI) vwCl (mW g0 pq cp (upd z 47 (nI (kz + 1))) fz) H := hP
            have hD : va_D A (mW g0 pq cp (upd z 47 (nI (kz + 1))) fz) := hD
            obtain ⟨z_55, ez_55⟩ : ∃ zq, zq = (upd z 47 (nI (kz + 1))) := ⟨_, rfl⟩
            rw [← ez_55] at hP hD
            have ea_z_55 : z_55 47 = nI (kz + 1) := by rw [ez_55]; rfl
            have es_z_55 : z_55 50 = nI n := by rw [ez_55]; exact esz
            have hb_z_55 : z_55 49 < 0 ∨ ∃ j : Nat, j ≤ 1740 ∧ z_55 49 = nI j := by rw [ez_55]; exact hbz
            have we_z_55 : z_55 51 = 1 := by rw [ez_55]; exact we_24
            have de_z_55 : z_55 48 = nI 4 := by rw [ez_55]; exact de_25
            have sm_z_55 : ∀ i, i ≠ 47 → i ≠ 48 → i ≠ 51 → z_55 i = v i := by intro i h1 h2 h3; rw [ez_55]; exact (if_neg h1).trans (smz i h1 h2 h3)
            have hkn_z_55 : (kz + 1) ≤ n := (w_50.resolve_left (fun h => absurd (c_52.symm.trans h) (by decide)))
            have hk0_z_55 : k ≤ (kz + 1) := by omega
            refine lv_aload_n hx hb dX11_sum_45 rfl (lv_at hl 2 rfl) ?_
            have hFc := va_free (wc := (mW g0 pq cp z_55 fz)) hD hS hA (List.range 48) rfl
            refine va_calli (va_runV (As := []) (rest := []) ⟨hx, hb, hml, hown, hts⟩ (c_X11_term_4 l dC dI H.size g0 pq cp z_55 fz (kz + 1) n hkn_z_55 hn ea_z_55 es_z_55 hb_z_55 we_z_55 de_z_55) (cwV 0 hts gX11_sum_X11_term rfl rfl rfl (by decide +kernel) ⟨(Nat.le_of_ble_eq_true rfl), (Nat.le_of_ble_eq_true rfl)⟩) (pr_V (r := (RX11, TX11, 63)) hP hK hD 0 11 rfl rfl) rfl rfl hl.1 rfl (lv_room (Nat.le_of_ble_eq_true rfl)) dX11_sum_46 ⟨(Nat.le_of_ble_eq_true rfl), (Nat.le_of_ble_eq_true rfl)⟩) hS (fun q _ h => hFc q h) hFc (fun r_57 u t H locs ht hvm w_56 hB hz1 hk1 hS => ?_)
            obtain ⟨v_58, fa_59⟩ := u
            obtain ⟨hP1, hK1, hD1⟩ := hB
            rw [ht] at hP1
            have hP : va_P (dC, dI) vwCl (mW g0 pq cp v_58 fa_59) H := hP1
            have hD : va_D A (mW g0 pq cp v_58 fa_59) := hD1.weaken (fun _ _ _ h => hFc _ h)
            clear hP1 hK1 hD1 hk1 hz1 hvm ht hFc
            obtain ⟨⟨k_60, ha_61, hb_62, ea_63, wd_64, sm_65⟩, ef_66⟩ := w_56
            dsimp only at ea_63 wd_64 sm_65 ef_66
            have es_v_58 : v_58 50 = nI n := (sm_65 50 (by decide) (by decide) (by decide)).trans es_z_55
            have hb_v_58 : v_58 49 < 0 ∨ ∃ j : Nat, j ≤ 1740 ∧ v_58 49 = nI j := by rw [sm_65 49 (by decide) (by decide) (by decide)]; exact hb_z_55
            have sm_v_58 : ∀ i, i ≠ 47 → i ≠ 48 → i ≠ 51 → v_58 i = v i := fun i h1 h2 h3 => (sm_65 i h1 h2 h3).trans (sm_z_55 i h1 h2 h3)
            refine lv_istore_n (lv' := [(3, .int r_57), (2, .int r_54), (1, .int x), (0, .ref g0)]) hx hb dX11_sum_49 rfl hl (by decide) rfl (fun ls hl => ?_)
            refine lv_iload_n hx hb dX11_sum_50 rfl (lv_at hl 1 rfl) ?_
            refine lv_bipush (v := 43) hx hb dX11_sum_51 (by decide) ?_
            refine lv_icmp_ne (tgt := 64) hx hb dX11_sum_53 (by decide) (fun c_67 => ?_) (fun c_67 => ?_)
            · refine lv_iload_n hx hb dX11_sum_64 rfl (lv_at hl 2 rfl) ?_
              refine lv_i2l (v := (x : Int32).toInt64) hx hb dX11_sum_65 rfl ?_
              refine lv_iload_n hx hb dX11_sum_66 rfl (lv_at hl 0 rfl) ?_
              refine lv_i2l (v := (r_57 : Int32).toInt64) hx hb dX11_sum_67 rfl ?_
              refine lv_lsub hx hb dX11_sum_68 ?_
              have hFc : ∀ q, va_A [] H.size q → A q := pu_free hS hA
              have hPc := hP.sub (ws' := []) [] rfl
              have hDc := hD.sub (ws' := []) [] (by decide) rfl
              have hKc := hK.sub (tys' := []) [] rfl
              refine va_calli (va_runS (As := [.long (((x : Int32).toInt64) - ((r_57 : Int32).toInt64))]) (rest := []) ⟨hx, hb, hml, hown, hts⟩ (c_X11_held l dC dI H.size (((x : Int32).toInt64) - ((r_57 : Int32).toInt64))) (va_cwS 1 hts gX11_sum_X11_held rfl rfl rfl (by decide +kernel) ⟨(Nat.le_of_ble_eq_true rfl), (Nat.le_of_ble_eq_true rfl)⟩) (pr_S hPc hKc hDc) rfl rfl hl.1 rfl (lv_room (Nat.le_of_ble_eq_true rfl)) dX11_sum_69 ⟨(Nat.le_of_ble_eq_true rfl), (Nat.le_of_ble_eq_true rfl)⟩) hS (fun q _ h => hFc q h) hFc (fun r_69 u t H locs ht hvm w_68 hB hz1 hk1 hS => ?_)
              have hP := pu_keep hP hk1
              clear hk1 hz1 hvm hB ht hFc hPc hDc hKc
              refine lv_istore_n (lv' := [(1, .int r_69), (3, .int r_57), (2, .int r_54), (0, .ref g0)]) hx hb dX11_sum_72 rfl hl (by decide) rfl (fun ls hl => ?_)
              refine lv_goto (tgt := 5) hx hb dX11_sum_73 (by decide) ?_
              exact ih v_58 fa_59 k_60 r_69 _ _ ls (by omega) (by omega) hb_62 ea_63 es_v_58 hb_v_58 wd_64 sm_v_58 (ef_66.trans efz) hP hD hS (lv_sub hl [0, 3] rfl)
            · refine lv_iload_n hx hb dX11_sum_56 rfl (lv_at hl 2 rfl) ?_
              refine lv_i2l (v := (x : Int32).toInt64) hx hb dX11_sum_57 rfl ?_
              refine lv_iload_n hx hb dX11_sum_58 rfl (lv_at hl 0 rfl) ?_
              refine lv_i2l (v := (r_57 : Int32).toInt64) hx hb dX11_sum_59 rfl ?_
              refine lv_ladd hx hb dX11_sum_60 ?_
              refine lv_goto (tgt := 69) hx hb dX11_sum_61 (by decide) ?_
              have hFc : ∀ q, va_A [] H.size q → A q := pu_free hS hA
              have hPc := hP.sub (ws' := []) [] rfl
              have hDc := hD.sub (ws' := []) [] (by decide) rfl
              have hKc := hK.sub (tys' := []) [] rfl
              refine va_calli (va_runS (As := [.long (((x : Int32).toInt64) + ((r_57 : Int32).toInt64))]) (rest := []) ⟨hx, hb, hml, hown, hts⟩ (c_X11_held l dC dI H.size (((x : Int32).toInt64) + ((r_57 : Int32).toInt64))) (va_cwS 1 hts gX11_sum_X11_held rfl rfl rfl (by decide +kernel) ⟨(Nat.le_of_ble_eq_true rfl), (Nat.le_of_ble_eq_true rfl)⟩) (pr_S hPc hKc hDc) rfl rfl hl.1 rfl (lv_room (Nat.le_of_ble_eq_true rfl)) dX11_sum_69 ⟨(Nat.le_of_ble_eq_true rfl), (Nat.le_of_ble_eq_true rfl)⟩) hS (fun q _ h => hFc q h) hFc (fun r_71 u t H locs ht hvm w_70 hB hz1 hk1 hS => ?_)
              have hP := pu_keep hP hk1
              clear hk1 hz1 hvm hB ht hFc hPc hDc hKc
              refine lv_istore_n (lv' := [(1, .int r_71), (3, .int r_57), (2, .int r_54), (0, .ref g0)]) hx hb dX11_sum_72 rfl hl (by decide) rfl (fun ls hl => ?_)
              refine lv_goto (tgt := 5) hx hb dX11_sum_73 (by decide) ?_
              exact ih v_58 fa_59 k_60 r_71 _ _ ls (by omega) (by omega) hb_62 ea_63 es_v_58 hb_v_58 wd_64 sm_v_58 (ef_66.trans efz) hP hD hS (lv_sub hl [0, 3] rfl)
  exact hloop n v_3 fa_4 k_5 r_2 _ _ ls (by omega) (by omega) hb_7 ea_8 es_v_3 hb_v_3 wd_9 sm_v_3 ef_11 hP hD hS (lv_sub hl [0, 1] rfl)
