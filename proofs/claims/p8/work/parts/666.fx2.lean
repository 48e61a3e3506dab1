


set_option maxHeartbeats 4000000 in
set_option maxRecDepth 100000 in
theorem c_X0_held_f (l : Launch) (dC : Nat → ClassId) (dI : Nat → Nat → Nat) (sz : Nat) (x1 : Int64) : Met l yX0_held wsX0_held ({ frames := 0, cells := 0, slots := 0, locals := 0 }) (va_Pc [.long x1] (pcW (dC, dI) [] [] sz)) (va_Qi (fun (r : Int32) (u : Unit) => (r = hld x1)) (fun _ _ => True) (va_A [] sz)) 0 0 (va_A [] sz) := by
  refine Met.ofW (cc := cX0_held) (maxL := 2) (ret := (some .int)) (by decide +kernel) rfl ?_
  intro p e s m args below meth c s₁ B hml hv
  obtain ⟨rfl, hsz, hP, hK, hD0⟩ := hv
  have hx := B.exec
  have hb := B.bytes
  have hr := B.returns
  have hts := atoms_spec (ws := wsX0_held) B.pre
  have hown : s.vm.findClass RX0 = some m.cls := findClass_of_methodNamed B.named
  have hlocks := B.notSynchronized
  subst hsz
  have hD := hD0
  generalize hAe : va_A [] s.heap.size = A at ⊢
  have hA : ∀ q : Nat, s.heap.size ≤ q → A q := fun q h => by rw [← hAe]; exact Or.inr h
  have hS : va_S A s.heap s.heap [] := va_S.rf
  have hP : va_P (dC, dI) vwCl [] s.heap := hP
  have hl := lv_entry ([.long x1]) (n := 2) (Nat.le_of_ble_eq_true rfl)
  rw [lg_entry_eq]
  generalize (lg_sl ([.long x1]) ++ List.replicate (2 - (lg_sl ([.long x1])).length) Slot.unset).toArray = ls at hl ⊢
  have hl : lv_has ls 2 [(0, .long x1)] := hl
  refine lv_lload_n hx hb dX0_held_0 rfl (lv_at hl 0 rfl) ?_
  refine lv_ldc2 (v := 1000000000) hx hb hown (hts (.constantLong RX0 44 (1000000000)) (by decide +kernel)) dX0_held_1 ?_
  refine W.lcmp hx hb dX0_held_4 ?_
  refine lv_topi (fun x_1 ex_1 => ?_)
  refine lv_if_le (tgt := 11) hx hb dX0_held_5 (by decide +kernel) (fun c_2 => ?_) (fun c_2 => ?_)
  · have dc_2 := c_le (a := x_1.toInt) (b := 0) rfl (by decide +kernel) c_2
    refine lv_lload_n hx hb dX0_held_11 rfl (lv_at hl 0 rfl) ?_
    refine lv_ldc2 (v := (-1000000000)) hx hb hown (hts (.constantLong RX0 47 (-1000000000)) (by decide +kernel)) dX0_held_12 ?_
    refine W.lcmp hx hb dX0_held_15 ?_
    refine lv_topi (fun x_3 ex_3 => ?_)
    refine lv_if_ge (tgt := 24) hx hb dX0_held_16 (by decide +kernel) (fun c_4 => ?_) (fun c_4 => ?_)
    · have dc_4 := c_le (a := 0) (b := x_3.toInt) (by decide +kernel) rfl c_4
      refine lv_lload_n hx hb dX0_held_24 rfl (lv_at hl 0 rfl) ?_
      refine lv_l2i (v := (x1 : Int64).toInt32) hx hb dX0_held_25 rfl ?_
      refine lv_topi (fun x_5 ex_5 => ?_)
      exact W.iret (v := x_5) hx hb hr (fun t ht hW => ⟨⟨x_5, (), rfl, (by unfold hld; rw [if_pos (by rw [← ex_1]; exact c_2), if_pos (by rw [← ex_3]; exact c_4)]; exact ex_5), trivial⟩, hS.F ht⟩) hS.2.2 dX0_held_26
    · have dc_4 := c_nle (a := 0) (b := x_3.toInt) (by decide +kernel) rfl c_4
      refine lv_ldc (v := (-1000000000)) hx hb hown (hts (.constant RX0 49 (-1000000000)) (by decide +kernel)) dX0_held_19 ?_
      refine lv_goto (tgt := 26) hx hb dX0_held_21 (by decide +kernel) ?_
      exact W.iret (v := (-1000000000)) hx hb hr (fun t ht hW => ⟨⟨(-1000000000), (), rfl, (by unfold hld; rw [if_pos (by rw [← ex_1]; exact c_2), if_neg (fun h => c_4 (by rw [ex_3]; exact h))]), trivial⟩, hS.F ht⟩) hS.2.2 dX0_held_26
  · have dc_2 := c_nle (a := x_1.toInt) (b := 0) rfl (by decide +kernel) c_2
    refine lv_ldc (v := 1000000000) hx hb hown (hts (.constant RX0 46 (1000000000)) (by decide +kernel)) dX0_held_8 ?_
    exact W.iret (v := 1000000000) hx hb hr (fun t ht hW => ⟨⟨1000000000, (), rfl, (by unfold hld; rw [if_neg (fun h => c_2 (by rw [ex_1]; exact h))]), trivial⟩, hS.F ht⟩) hS.2.2 dX0_held_10
set_option maxHeartbeats 4000000 in
set_option maxRecDepth 100000 in
theorem c_X0_joined_f (l : Launch) (dC : Nat → ClassId) (dI : Nat → Nat → Nat) (sz : Nat) (x1 : Int64) (x2 : Int64) (x3 : Int32) : Met l yX0_joined wsX0_joined ({ frames := 1, cells := 0, slots := 0, locals := 21 }) (va_Pc [.long x1, .long x2, .int x3] (pcW (dC, dI) [] [] sz)) (va_Qi (fun (r : Int32) (u : Unit) => (r = jnd x3 x1 x2)) (fun _ _ => True) (va_A [] sz)) 0 0 (va_A [] sz) := by
  refine Met.ofW (cc := cX0_joined) (maxL := 5) (ret := (some .int)) (by decide +kernel) rfl ?_
  intro p e s m args below meth c s₁ B hml hv
  obtain ⟨rfl, hsz, hP, hK, hD0⟩ := hv
  have hx := B.exec
  have hb := B.bytes
  have hr := B.returns
  have hts := atoms_spec (ws := wsX0_joined) B.pre
  have hown : s.vm.findClass RX0 = some m.cls := findClass_of_methodNamed B.named
  have hlocks := B.notSynchronized
  subst hsz
  have hD := hD0
  generalize hAe : va_A [] s.heap.size = A at ⊢
  have hA : ∀ q : Nat, s.heap.size ≤ q → A q := fun q h => by rw [← hAe]; exact Or.inr h
  have hS : va_S A s.heap s.heap [] := va_S.rf
  have hP : va_P (dC, dI) vwCl [] s.heap := hP
  have hl := lv_entry ([.long x1, .long x2, .int x3]) (n := 5) (Nat.le_of_ble_eq_true rfl)
  rw [lg_entry_eq]
  generalize (lg_sl ([.long x1, .long x2, .int x3]) ++ List.replicate (5 - (lg_sl ([.long x1, .long x2, .int x3])).length) Slot.unset).toArray = ls at hl ⊢
  have hl : lv_has ls 5 [(0, .long x1), (2, .long x2), (4, .int x3)] := hl
  refine lv_iload hx hb dX0_joined_0 (lv_at hl 2 rfl) ?_
  by_cases q_1 : x3 = 0
  · refine lv_topi (fun y ey => ?_)
    obtain rfl : y = 0 := ey.trans q_1
    refine lv_tableIn (x := 0) (off := 38) (tgt := 40) hx hb dX0_joined_2 (by decide +kernel) (by decide +kernel) (by decide +kernel) (by decide +kernel) ?_
    refine lv_lload_n hx hb dX0_joined_40 rfl (lv_at hl 0 rfl) ?_
    refine lv_lload_n hx hb dX0_joined_41 rfl (lv_at hl 1 rfl) ?_
    refine lv_ladd hx hb dX0_joined_42 ?_
    have hFc : ∀ q, va_A [] s.heap.size q → A q := pu_free hS hA
    have hPc := hP.sub (ws' := []) [] rfl
    have hDc := hD.sub (ws' := []) [] (by decide +kernel) rfl
    have hKc := hK.sub (tys' := []) [] rfl
    refine va_calli (va_runS (As := [.long (x1 + x2)]) (rest := []) ⟨hx, hb, hml, hown, hts⟩ (c_X0_held_f l dC dI s.heap.size  (x1 + x2)) (va_cwS 1 hts gX0_joined_X0_held rfl rfl rfl (by decide +kernel) ⟨(Nat.le_of_ble_eq_true rfl), (Nat.le_of_ble_eq_true rfl)⟩) (pr_S hPc hKc hDc) rfl rfl hl.1 rfl (lv_room (Nat.le_of_ble_eq_true rfl)) dX0_joined_43 ⟨(Nat.le_of_ble_eq_true rfl), (Nat.le_of_ble_eq_true rfl)⟩) hS (fun q _ h => hFc q h) hFc (fun r_3 u t H locs ht hvm w_2 hB hz1 hk1 hS => ?_)
    have hP := pu_keep hP hk1
    clear hk1 hz1 hvm hB ht hFc hPc hDc hKc
    have hx_4 := w_2
    exact W.iret (v := r_3) hx hb hr (fun t ht hW => ⟨⟨r_3, (), rfl, (by unfold jnd; rw [if_pos q_1]; exact hx_4), trivial⟩, hS.F ht⟩) hS.2.2 dX0_joined_46
  have n_5 := c_ne (a := x3.toInt) (b := 0) rfl (by decide +kernel) q_1
  by_cases q_6 : x3 = 1
  · refine lv_topi (fun y ey => ?_)
    obtain rfl : y = 1 := ey.trans q_6
    refine lv_tableIn (x := 1) (off := 45) (tgt := 47) hx hb dX0_joined_2 (by decide +kernel) (by decide +kernel) (by decide +kernel) (by decide +kernel) ?_
    refine lv_lload_n hx hb dX0_joined_47 rfl (lv_at hl 0 rfl) ?_
    refine lv_lload_n hx hb dX0_joined_48 rfl (lv_at hl 1 rfl) ?_
    refine lv_lsub hx hb dX0_joined_49 ?_
    have hFc : ∀ q, va_A [] s.heap.size q → A q := pu_free hS hA
    have hPc := hP.sub (ws' := []) [] rfl
    have hDc := hD.sub (ws' := []) [] (by decide +kernel) rfl
    have hKc := hK.sub (tys' := []) [] rfl
    refine va_calli (va_runS (As := [.long (x1 - x2)]) (rest := []) ⟨hx, hb, hml, hown, hts⟩ (c_X0_held_f l dC dI s.heap.size  (x1 - x2)) (va_cwS 1 hts gX0_joined_X0_held rfl rfl rfl (by decide +kernel) ⟨(Nat.le_of_ble_eq_true rfl), (Nat.le_of_ble_eq_true rfl)⟩) (pr_S hPc hKc hDc) rfl rfl hl.1 rfl (lv_room (Nat.le_of_ble_eq_true rfl)) dX0_joined_50 ⟨(Nat.le_of_ble_eq_true rfl), (Nat.le_of_ble_eq_true rfl)⟩) hS (fun q _ h => hFc q h) hFc (fun r_8 u t H locs ht hvm w_7 hB hz1 hk1 hS => ?_)
    have hP := pu_keep hP hk1
    clear hk1 hz1 hvm hB ht hFc hPc hDc hKc
    have hx_9 := w_7
    exact W.iret (v := r_8) hx hb hr (fun t ht hW => ⟨⟨r_8, (), rfl, (by unfold jnd; rw [if_neg (by rw [q_6]; decide), if_pos q_6]; exact hx_9), trivial⟩, hS.F ht⟩) hS.2.2 dX0_joined_53
  have n_10 := c_ne (a := x3.toInt) (b := 1) rfl (by decide +kernel) q_6
  by_cases q_11 : x3 = 2
  · refine lv_topi (fun y ey => ?_)
    obtain rfl : y = 2 := ey.trans q_11
    refine lv_tableIn (x := 2) (off := 52) (tgt := 54) hx hb dX0_joined_2 (by decide +kernel) (by decide +kernel) (by decide +kernel) (by decide +kernel) ?_
    refine lv_lload_n hx hb dX0_joined_54 rfl (lv_at hl 0 rfl) ?_
    refine lv_lload_n hx hb dX0_joined_55 rfl (lv_at hl 1 rfl) ?_
    refine lv_lmul hx hb dX0_joined_56 ?_
    have hFc : ∀ q, va_A [] s.heap.size q → A q := pu_free hS hA
    have hPc := hP.sub (ws' := []) [] rfl
    have hDc := hD.sub (ws' := []) [] (by decide +kernel) rfl
    have hKc := hK.sub (tys' := []) [] rfl
    refine va_calli (va_runS (As := [.long (x1 * x2)]) (rest := []) ⟨hx, hb, hml, hown, hts⟩ (c_X0_held_f l dC dI s.heap.size  (x1 * x2)) (va_cwS 1 hts gX0_joined_X0_held rfl rfl rfl (by decide +kernel) ⟨(Nat.le_of_ble_eq_true rfl), (Nat.le_of_ble_eq_true rfl)⟩) (pr_S hPc hKc hDc) rfl rfl hl.1 rfl (lv_room (Nat.le_of_ble_eq_true rfl)) dX0_joined_57 ⟨(Nat.le_of_ble_eq_true rfl), (Nat.le_of_ble_eq_true rfl)⟩) hS (fun q _ h => hFc q h) hFc (fun r_13 u t H locs ht hvm w_12 hB hz1 hk1 hS => ?_)
    have hP := pu_keep hP hk1
    clear hk1 hz1 hvm hB ht hFc hPc hDc hKc
    have hx_14 := w_12
    exact W.iret (v := r_13) hx hb hr (fun t ht hW => ⟨⟨r_13, (), rfl, (by unfold jnd; rw [if_neg (by rw [q_11]; decide), if_neg (by rw [q_11]; decide), if_pos q_11]; exact hx_14), trivial⟩, hS.F ht⟩) hS.2.2 dX0_joined_60
  have n_15 := c_ne (a := x3.toInt) (b := 2) rfl (by decide +kernel) q_11
  by_cases q_16 : x3 = 3
  · refine lv_topi (fun y ey => ?_)
    obtain rfl : y = 3 := ey.trans q_16
    refine lv_tableIn (x := 3) (off := 59) (tgt := 61) hx hb dX0_joined_2 (by decide +kernel) (by decide +kernel) (by decide +kernel) (by decide +kernel) ?_
    refine lv_lload_n hx hb dX0_joined_61 rfl (lv_at hl 1 rfl) ?_
    refine lv_lconst (v := 0) hx hb dX0_joined_62 (by decide +kernel) ?_
    refine W.lcmp hx hb dX0_joined_63 ?_
    refine lv_topi (fun x_17 ex_17 => ?_)
    refine lv_if_ne (tgt := 71) hx hb dX0_joined_64 (by decide +kernel) (fun c_18 => ?_) (fun c_18 => ?_)
    · have dc_18 := c_ne (a := x_17.toInt) (b := 0) rfl (by decide +kernel) c_18
      refine lv_lload_n hx hb dX0_joined_71 rfl (lv_at hl 0 rfl) ?_
      refine lv_lload_n hx hb dX0_joined_72 rfl (lv_at hl 1 rfl) ?_
      refine lv_ldiv hx hb dX0_joined_73 (fun h => c_18 (ex_17.trans ((lg_cmp_eq _ _).mpr h))) ?_
      have hFc : ∀ q, va_A [] s.heap.size q → A q := pu_free hS hA
      have hPc := hP.sub (ws' := []) [] rfl
      have hDc := hD.sub (ws' := []) [] (by decide +kernel) rfl
      have hKc := hK.sub (tys' := []) [] rfl
      refine va_calli (va_runS (As := [.long (x1 / x2)]) (rest := []) ⟨hx, hb, hml, hown, hts⟩ (c_X0_held_f l dC dI s.heap.size  (x1 / x2)) (va_cwS 1 hts gX0_joined_X0_held rfl rfl rfl (by decide +kernel) ⟨(Nat.le_of_ble_eq_true rfl), (Nat.le_of_ble_eq_true rfl)⟩) (pr_S hPc hKc hDc) rfl rfl hl.1 rfl (lv_room (Nat.le_of_ble_eq_true rfl)) dX0_joined_74 ⟨(Nat.le_of_ble_eq_true rfl), (Nat.le_of_ble_eq_true rfl)⟩) hS (fun q _ h => hFc q h) hFc (fun r_20 u t H locs ht hvm w_19 hB hz1 hk1 hS => ?_)
      have hP := pu_keep hP hk1
      clear hk1 hz1 hvm hB ht hFc hPc hDc hKc
      have hx_21 := w_19
      exact W.iret (v := r_20) hx hb hr (fun t ht hW => ⟨⟨r_20, (), rfl, (by unfold jnd; rw [if_neg (by rw [q_16]; decide), if_neg (by rw [q_16]; decide), if_neg (by rw [q_16]; decide), if_pos q_16, if_neg (fun h => c_18 (by rw [ex_17]; exact h))]; exact hx_21), trivial⟩, hS.F ht⟩) hS.2.2 dX0_joined_77
    · have dc_18 := c_eq (a := x_17.toInt) (b := 0) rfl (by decide +kernel) c_18
      refine lv_iconst (v := 0) hx hb dX0_joined_67 (by decide +kernel) ?_
      refine lv_goto (tgt := 77) hx hb dX0_joined_68 (by decide +kernel) ?_
      exact W.iret (v := 0) hx hb hr (fun t ht hW => ⟨⟨0, (), rfl, (by unfold jnd; rw [if_neg (by rw [q_16]; decide), if_neg (by rw [q_16]; decide), if_neg (by rw [q_16]; decide), if_pos q_16, if_pos (by rw [← ex_17]; exact c_18)]), trivial⟩, hS.F ht⟩) hS.2.2 dX0_joined_77
  have n_22 := c_ne (a := x3.toInt) (b := 3) rfl (by decide +kernel) q_16
  by_cases q_23 : x3 = 4
  · refine lv_topi (fun y ey => ?_)
    obtain rfl : y = 4 := ey.trans q_23
    refine lv_tableIn (x := 4) (off := 76) (tgt := 78) hx hb dX0_joined_2 (by decide +kernel) (by decide +kernel) (by decide +kernel) (by decide +kernel) ?_
    refine lv_lload_n hx hb dX0_joined_78 rfl (lv_at hl 0 rfl) ?_
    refine lv_lload_n hx hb dX0_joined_79 rfl (lv_at hl 1 rfl) ?_
    refine W.lcmp hx hb dX0_joined_80 ?_
    refine lv_topi (fun x_24 ex_24 => ?_)
    refine lv_if_ge (tgt := 88) hx hb dX0_joined_81 (by decide +kernel) (fun c_25 => ?_) (fun c_25 => ?_)
    · have dc_25 := c_le (a := 0) (b := x_24.toInt) (by decide +kernel) rfl c_25
      refine lv_iconst (v := 0) hx hb dX0_joined_88 (by decide +kernel) ?_
      exact W.iret (v := 0) hx hb hr (fun t ht hW => ⟨⟨0, (), rfl, (by unfold jnd; rw [if_neg (by rw [q_23]; decide), if_neg (by rw [q_23]; decide), if_neg (by rw [q_23]; decide), if_neg (by rw [q_23]; decide), if_pos q_23, if_pos (by rw [← ex_24]; exact c_25)]), trivial⟩, hS.F ht⟩) hS.2.2 dX0_joined_89
    · have dc_25 := c_nle (a := 0) (b := x_24.toInt) (by decide +kernel) rfl c_25
      refine lv_iconst (v := 1) hx hb dX0_joined_84 (by decide +kernel) ?_
      refine lv_goto (tgt := 89) hx hb dX0_joined_85 (by decide +kernel) ?_
      exact W.iret (v := 1) hx hb hr (fun t ht hW => ⟨⟨1, (), rfl, (by unfold jnd; rw [if_neg (by rw [q_23]; decide), if_neg (by rw [q_23]; decide), if_neg (by rw [q_23]; decide), if_neg (by rw [q_23]; decide), if_pos q_23, if_neg (fun h => c_25 (by rw [ex_24]; exact h))]), trivial⟩, hS.F ht⟩) hS.2.2 dX0_joined_89
  have n_26 := c_ne (a := x3.toInt) (b := 4) rfl (by decide +kernel) q_23
  by_cases q_27 : x3 = 5
  · refine lv_topi (fun y ey => ?_)
    obtain rfl : y = 5 := ey.trans q_27
    refine lv_tableIn (x := 5) (off := 88) (tgt := 90) hx hb dX0_joined_2 (by decide +kernel) (by decide +kernel) (by decide +kernel) (by decide +kernel) ?_
    refine lv_lload_n hx hb dX0_joined_90 rfl (lv_at hl 0 rfl) ?_
    refine lv_lload_n hx hb dX0_joined_91 rfl (lv_at hl 1 rfl) ?_
    refine W.lcmp hx hb dX0_joined_92 ?_
    refine lv_topi (fun x_28 ex_28 => ?_)
    refine lv_if_ne (tgt := 100) hx hb dX0_joined_93 (by decide +kernel) (fun c_29 => ?_) (fun c_29 => ?_)
    · have dc_29 := c_ne (a := x_28.toInt) (b := 0) rfl (by decide +kernel) c_29
      refine lv_iconst (v := 0) hx hb dX0_joined_100 (by decide +kernel) ?_
      exact W.iret (v := 0) hx hb hr (fun t ht hW => ⟨⟨0, (), rfl, (by unfold jnd; rw [if_neg (by rw [q_27]; decide), if_neg (by rw [q_27]; decide), if_neg (by rw [q_27]; decide), if_neg (by rw [q_27]; decide), if_neg (by rw [q_27]; decide), if_pos q_27, if_neg (fun h => c_29 (by rw [ex_28]; exact h))]), trivial⟩, hS.F ht⟩) hS.2.2 dX0_joined_101
    · have dc_29 := c_eq (a := x_28.toInt) (b := 0) rfl (by decide +kernel) c_29
      refine lv_iconst (v := 1) hx hb dX0_joined_96 (by decide +kernel) ?_
      refine lv_goto (tgt := 101) hx hb dX0_joined_97 (by decide +kernel) ?_
      exact W.iret (v := 1) hx hb hr (fun t ht hW => ⟨⟨1, (), rfl, (by unfold jnd; rw [if_neg (by rw [q_27]; decide), if_neg (by rw [q_27]; decide), if_neg (by rw [q_27]; decide), if_neg (by rw [q_27]; decide), if_neg (by rw [q_27]; decide), if_pos q_27, if_pos (by rw [← ex_28]; exact c_29)]), trivial⟩, hS.F ht⟩) hS.2.2 dX0_joined_101
  have n_30 := c_ne (a := x3.toInt) (b := 5) rfl (by decide +kernel) q_27
  refine lv_tableOut (tgt := 102) hx hb dX0_joined_2 (by omega) (by decide +kernel) ?_
  refine lv_lload_n hx hb dX0_joined_102 rfl (lv_at hl 0 rfl) ?_
  refine lv_lload_n hx hb dX0_joined_103 rfl (lv_at hl 1 rfl) ?_
  refine W.lcmp hx hb dX0_joined_104 ?_
  refine lv_topi (fun x_31 ex_31 => ?_)
  refine lv_if_le (tgt := 112) hx hb dX0_joined_105 (by decide +kernel) (fun c_32 => ?_) (fun c_32 => ?_)
  · have dc_32 := c_le (a := x_31.toInt) (b := 0) rfl (by decide +kernel) c_32
    refine lv_iconst (v := 0) hx hb dX0_joined_112 (by decide +kernel) ?_
    exact W.iret (v := 0) hx hb hr (fun t ht hW => ⟨⟨0, (), rfl, (by unfold jnd; rw [if_neg q_1, if_neg q_6, if_neg q_11, if_neg q_16, if_neg q_23, if_neg q_27, if_pos (by rw [← ex_31]; exact c_32)]), trivial⟩, hS.F ht⟩) hS.2.2 dX0_joined_113
  · have dc_32 := c_nle (a := x_31.toInt) (b := 0) rfl (by decide +kernel) c_32
    refine lv_iconst (v := 1) hx hb dX0_joined_108 (by decide +kernel) ?_
    refine lv_goto (tgt := 113) hx hb dX0_joined_109 (by decide +kernel) ?_
    exact W.iret (v := 1) hx hb hr (fun t ht hW => ⟨⟨1, (), rfl, (by unfold jnd; rw [if_neg q_1, if_neg q_6, if_neg q_11, if_neg q_16, if_neg q_23, if_neg q_27, if_neg (fun h => c_32 (by rw [ex_31]; exact h))]), trivial⟩, hS.F ht⟩) hS.2.2 dX0_joined_113
/-- the stack up to top is st, and the rest of the code makes of it what the whole makes of nothing -/
def stk (S : oS) (sk : Nat) (L : Nat → Int32) (E : List Int32) (top i : Nat) : Prop := ∃ st : List Int32, st.length = top ∧ (∀ t, t < top → st[t]? = some (oI S sk (top - 1 - t))) ∧ exE L (E.drop i) st = exE L E []
theorem stk_0 {S : oS} {sk : Nat} {L : Nat → Int32} {E : List Int32} : stk S sk L E 0 0 := ⟨[], rfl, fun t h => absurd h (Nat.not_lt_zero t), by rw [List.drop_zero]⟩
theorem dr_s {E : List Int32} {i : Nat} {x : Int32} (h : E[i]? = some x) : E.drop i = x :: E.drop (i + 1) := by
  obtain ⟨hl, hx⟩ := List.getElem?_eq_some_iff.mp h
  rw [List.drop_eq_getElem_cons hl, hx]
theorem exE_s {L : Nat → Int32} {E st : List Int32} {i : Nat} {x : Int32} (h : E[i]? = some x) : exE L (E.drop i) st = exE L (E.drop (i + 1)) (exS L st x) := by
  rw [dr_s h]
  rfl
theorem stk_push {S S1 : oS} {sk : Nat} {L : Nat → Int32} {E : List Int32} {top i : Nat} {x v : Int32} (h : stk S sk L E top i) (hx : E[i]? = some x) (hn : ¬ x ≤ -11) (hv : v = vlO L x) (e : oI S1 sk = upd (oI S sk) top v) : stk S1 sk L E (top + 1) (i + 1) := by
  obtain ⟨st, h1, h2, h3⟩ := h
  refine ⟨v :: st, by rw [List.length_cons, h1], fun t ht => ?_, ?_⟩
  · rw [e]
    by_cases q : t = 0
    · subst q
      rw [show top + 1 - 1 - 0 = top by omega, show upd (oI S sk) top v top = v from if_pos rfl]
      rfl
    · obtain ⟨t', rfl⟩ : ∃ t', t = t' + 1 := ⟨t - 1, by omega⟩
      rw [List.getElem?_cons_succ, h2 t' (by omega), show upd (oI S sk) top v (top + 1 - 1 - (t' + 1)) = oI S sk (top + 1 - 1 - (t' + 1)) from if_neg (by omega), show top + 1 - 1 - (t' + 1) = top - 1 - t' by omega]
  · rw [← h3, exE_s hx]
    unfold exS
    rw [if_neg hn, hv]
theorem stk_op {S S1 : oS} {sk : Nat} {L : Nat → Int32} {E : List Int32} {top i : Nat} {x v a b : Int32} (h : stk S sk L E (top + 2) i) (hx : E[i]? = some x) (hn : x ≤ -11) (ha : a = oI S sk top) (hb : b = oI S sk (top + 1)) (hv : v = jnd (-11 - x) a.toInt64 b.toInt64) (e : oI S1 sk = upd (oI S sk) top v) : stk S1 sk L E (top + 1) (i + 1) := by
  obtain ⟨st, h1, h2, h3⟩ := h
  obtain ⟨y, st, rfl⟩ : ∃ y s, st = y :: s := by
    cases st with
    | nil => simp at h1
    | cons y s => exact ⟨y, s, rfl⟩
  obtain ⟨z, st, rfl⟩ : ∃ y s, st = y :: s := by
    cases st with
    | nil => simp at h1
    | cons y s => exact ⟨y, s, rfl⟩
  have ey := h2 0 (by omega)
  have ez := h2 1 (by omega)
  rw [show top + 2 - 1 - 0 = top + 1 by omega] at ey
  rw [show top + 2 - 1 - 1 = top by omega] at ez
  have ey : y = oI S sk (top + 1) := Option.some.inj ey
  have ez : z = oI S sk top := Option.some.inj ez
  have hl : st.length = top := by simp at h1; omega
  refine ⟨v :: st, by rw [List.length_cons, hl], fun t ht => ?_, ?_⟩
  · rw [e]
    by_cases q : t = 0
    · subst q
      rw [show top + 1 - 1 - 0 = top by omega, show upd (oI S sk) top v top = v from if_pos rfl]
      rfl
    · obtain ⟨t', rfl⟩ : ∃ t', t = t' + 1 := ⟨t - 1, by omega⟩
      have g := h2 (t' + 2) (by omega)
      rw [List.getElem?_cons_succ, List.getElem?_cons_succ] at g
      rw [List.getElem?_cons_succ, g, show upd (oI S sk) top v (top + 1 - 1 - (t' + 1)) = oI S sk (top + 1 - 1 - (t' + 1)) from if_neg (by omega), show top + 1 - 1 - (t' + 1) = top + 2 - 1 - (t' + 2) by omega]
  · rw [← h3, exE_s hx, hv, ha, hb, ← ey, ← ez]
    unfold exS
    rw [if_pos hn]
theorem stk_no {S : oS} {sk : Nat} {L : Nat → Int32} {E : List Int32} {top i : Nat} {x : Int32} (h : stk S sk L E top i) (hx : E[i]? = some x) (hn : x ≤ -11) (ht : top < 2) : stk S sk L E top (i + 1) := by
  obtain ⟨st, h1, h2, h3⟩ := h
  refine ⟨st, h1, h2, ?_⟩
  rw [← h3, exE_s hx]
  unfold exS
  rw [if_pos hn]
  match st, h1 with
  | [], _ => rfl
  | [y], _ => rfl
  | y :: z :: r, h1 => simp at h1; omega
theorem stk_end {S : oS} {sk : Nat} {L : Nat → Int32} {E : List Int32} {top i : Nat} {x : Int32} (h : stk S sk L E top i) (hi : E.length ≤ i) (he : exE L E [] = [x]) : oI S sk 0 = x := by
  obtain ⟨st, h1, h2, h3⟩ := h
  rw [List.drop_eq_nil_of_le hi, he] at h3
  have h3 : st = [x] := h3
  subst h3
  have h1 : 1 = top := h1
  subst h1
  exact (Option.some.inj (h2 0 (by decide +kernel))).symm
/-- a row of ints is a code -/
def isE (S : oS) (cd : Nat) (E : List Int32) : Prop := ∀ j, j < E.length → E[j]? = some (oI S cd j)
theorem isE_x {S : oS} {cd : Nat} {E : List Int32} (h : isE S cd E) {i x : Int32} {n : Nat} (hn : E.length = n) (hi : 0 ≤ i.toInt ∧ i.toInt < n) (e : x = oI S cd i.toNatClampNeg) : E[i.toNatClampNeg]? = some x := by
  rw [e]
  exact h _ (by rw [hn]; show i.toInt.toNat < n; omega)
theorem vlO_1 {L : Nat → Int32} {x y v : Int32} (e : y = -1 - x) (h0 : 0 ≤ y.toInt) (h8 : y.toInt < 8) (ev : v = L y.toNatClampNeg) : v = vlO L x := by
  unfold vlO
  rw [← e, if_pos ⟨h0, h8⟩]
  exact ev
theorem vlO_2 {L : Nat → Int32} {x y : Int32} (e : y = -1 - x) (h : y.toInt < 0 ∨ 8 ≤ y.toInt) : x = vlO L x := by
  unfold vlO
  rw [← e, if_neg (by omega)]
set_option maxHeartbeats 4000000 in
set_option maxRecDepth 100000 in
theorem c_X0_worth_f (l : Launch) (dC : Nat → ClassId) (dI : Nat → Nat → Nat) (sz : Nat) (cq : Nat → ClassId) (Z : oS) (gI : oInv Z) (o : Nat) (to : oty Z o 0) (a1 : Nat) (ta1 : oty Z a1 108) (cd sk nE : Nat) (hcd : oP Z o 3 = some cd) (hsk : oP Z o 4 = some sk) (hn : nE ≤ 60) (tcd : oty Z cd (300 + nE)) (tsk : oty Z sk (1000 + (nE + 1))) (E : List Int32) (hEn : E.length = nE) (hE : isE Z cd E) : Met l yX0_worth wsX0_worth ({ frames := 2, cells := 0, slots := 0, locals := 45 }) (va_Pc [.ref o, .ref a1] (pcW (dC, dI) (oT cq) (oW cq Z) sz)) (va_Qi (fun (r : Int32) (u : oS) => oInv u ∧ oX [5001] Z u ∧ (∀ x, exE (oI Z a1) E [] = [x] → r = x)) (fun u t => va_P (dC, dI) vwCl (oW cq u) t.heap ∧ va_K (dC, dI) vwCl (oT cq) t ∧ va_D (va_A (oW cq Z) sz) (oW cq u)) (va_A (oW cq Z) sz)) 0 0 (va_A (oW cq Z) sz) := by
  refine Met.ofW (cc := cX0_worth) (maxL := 8) (ret := (some .int)) (by decide +kernel) rfl ?_
  intro p e s m args below meth c s₁ B hml hv
  obtain ⟨rfl, hsz, hP, hK, hD0⟩ := hv
  have hx := B.exec
  have hb := B.bytes
  have hr := B.returns
  have hts := atoms_spec (ws := wsX0_worth) B.pre
  have hown : s.vm.findClass RX0 = some m.cls := findClass_of_methodNamed B.named
  have hlocks := B.notSynchronized
  subst hsz
  have hD := hD0.self (sz := s.heap.size)
  generalize hAe : va_A (oW cq Z) s.heap.size = A at hD ⊢
  have hA : ∀ q : Nat, s.heap.size ≤ q → A q := fun q h => by rw [← hAe]; exact Or.inr h
  have hS : va_S A s.heap s.heap [] := va_S.rf
  have hP : va_P (dC, dI) vwCl (oW cq Z) s.heap := hP
  have hl := lv_entry ([.ref o, .ref a1]) (n := 8) (Nat.le_of_ble_eq_true rfl)
  rw [lg_entry_eq]
  generalize (lg_sl ([.ref o, .ref a1]) ++ List.replicate (8 - (lg_sl ([.ref o, .ref a1])).length) Slot.unset).toArray = ls at hl ⊢
  have hl : lv_has ls 8 [(0, .ref o), (1, .ref a1)] := hl
  refine lv_iconst (v := 0) hx hb dX0_worth_0 (by decide +kernel) ?_
  refine lv_istore_n (lv' := [(2, .int 0), (0, .ref o), (1, .ref a1)]) hx hb dX0_worth_1 rfl hl (by decide +kernel) rfl (fun ls hl => ?_)
  refine lv_aload_n hx hb dX0_worth_2 rfl (lv_at hl 1 rfl) ?_
  obtain ⟨q_1, hq_1⟩ := og (cq := cq) to.1 (oE_0 to.2)
  refine va_get (D := (dC, dI)) (ci := 0) (v := .ref cd) (C := RX0) (T := TX0) (N := 5) hx hb hts in_wsX0_worth_X0 hown hK hP q_1 hq_1 rfl 3 (by decide +kernel) (hts (.fieldLink RX0 16 "ShipOffice$Act" "code" "[I") iw_X0_worth_1) (fun _ h9 => h9) (o_rd hcd) dX0_worth_3 ?_
  refine lv_astore_n (lv' := [(3, .ref cd), (2, .int 0), (0, .ref o), (1, .ref a1)]) hx hb dX0_worth_6 rfl hl (by decide +kernel) rfl (fun ls hl => ?_)
  refine lv_aload_n hx hb dX0_worth_7 rfl (lv_at hl 0 rfl) ?_
  obtain ⟨q_2, hq_2⟩ := og (cq := cq) tcd.1 (oE_ar (n := nE) tcd.2 (by omega))
  refine va_alen (v := nI nE) hx hb hK hP q_2 0 hq_2 rfl rfl dX0_worth_8 ?_
  refine lv_topi (fun x_3 ex_3 => ?_)
  have hx_3 : x_3.toInt = (nE : Int) := (iv_to ex_3).trans (nI_toInt (by omega))
  clear ex_3
  refine lv_istore (lv' := [(4, .int x_3), (3, .ref cd), (2, .int 0), (0, .ref o), (1, .ref a1)]) hx hb dX0_worth_9 hl (by decide +kernel) rfl (fun ls hl => ?_)
  refine lv_iconst (v := 0) hx hb dX0_worth_11 (by decide +kernel) ?_
  refine lv_istore (lv' := [(5, .int 0), (4, .int x_3), (3, .ref cd), (2, .int 0), (0, .ref o), (1, .ref a1)]) hx hb dX0_worth_12 hl (by decide +kernel) rfl (fun ls hl => ?_)
  have cut_4 : ∀ (n : Nat) (y_5 : Int32) (y_6 : Int32) (S_7 : oS) (H : Heap) (locs : List Loc) (ls : Array Slot), 60 - y_6.toInt ≤ (n : Int) → (0 ≤ y_5.toInt ∧ y_5.toInt ≤ 61) → (0 ≤ y_6.toInt ∧ y_6.toInt ≤ 60) → (y_5.toInt ≤ y_6.toInt ∧ y_6.toInt ≤ (nE : Int)) → stk S_7 sk (oI Z a1) E y_5.toNatClampNeg y_6.toNatClampNeg → oInv S_7 → oX [5001] Z S_7 → va_P (dC, dI) vwCl (oW cq S_7) H → va_D A (oW cq S_7) → va_S A s.heap H locs → oP S_7 o 3 = some cd → oP S_7 o 4 = some sk → lv_has ls 8 [(2, .int y_5), (5, .int y_6), (4, .int x_3), (3, .ref cd), (0, .ref o), (1, .ref a1)] → W p l e (headSpec wsX0_worth { frames := 2, cells := 0, slots := 0, locals := 45 }).room s m #[Value.ref o, Value.ref a1] below meth c H locs 0 0 (MQ below (va_Qi (fun (r : Int32) (u : oS) => oInv u ∧ oX [5001] Z u ∧ (∀ x, exE (oI Z a1) E [] = [x] → r = x)) (fun u t => va_P (dC, dI) vwCl (oW cq u) t.heap ∧ va_K (dC, dI) vwCl (oT cq) t ∧ va_D A (oW cq u)) A) #[Value.ref o, Value.ref a1] s 0 0 A) (F0 m 14 ls []) := by
    intro n
    induction n using Nat.strongRecOn with
    | ind n ih =>
      intro y_5 y_6 S_7 H locs ls hm hy_5 hy_6 hq0_cut_4 hq1_cut_4 hIS_7 XS_7 hP hD hS pk_8 pk_9 hl
      have YS_7 : oX [5001] Z S_7 := oX.st oX.rf XS_7 (fun _ q => q)
      refine lv_iload hx hb dX0_worth_14 (lv_at hl 1 rfl) ?_
      refine lv_iload hx hb dX0_worth_16 (lv_at hl 2 rfl) ?_
      refine lv_icmp_ge (tgt := 128) hx hb dX0_worth_18 (by decide +kernel) (fun c_10 => ?_) (fun c_10 => ?_)
      · have dc_10 := c_le (a := x_3.toInt) (b := y_6.toInt) rfl rfl c_10
        refine lv_aload_n hx hb dX0_worth_128 rfl (lv_at hl 4 rfl) ?_
        have t_11 : oty S_7 o 0 := (oX.ty XS_7 to)
        obtain ⟨q_12, hq_12⟩ := og (cq := cq) t_11.1 (oE_0 t_11.2)
        refine va_get (D := (dC, dI)) (ci := 0) (v := .ref sk) (C := RX0) (T := TX0) (N := 5) hx hb hts in_wsX0_worth_X0 hown hK hP q_12 hq_12 rfl 4 (by decide +kernel) (hts (.fieldLink RX0 20 "ShipOffice$Act" "stack" "[I") iw_X0_worth_2) (fun _ h9 => h9) (o_rd pk_9) dX0_worth_129 ?_
        refine lv_iconst (v := 0) hx hb dX0_worth_132 (by decide +kernel) ?_
        have t_13 : oty S_7 sk (1000 + (nE + 1)) := (oX.ty XS_7 tsk)
        obtain ⟨q_14, hq_14⟩ := og (cq := cq) t_13.1 (oE_as (n := (nE + 1)) t_13.2)
        refine va_iald hx hb hK hP q_14 0 hq_14 rfl (vp_in_iff.mpr (by rw [show (0 : Int32).toInt = 0 by decide]; omega)) dX0_worth_133 ?_
        refine lv_topi (fun x_15 ex_15 => ?_)
        exact W.iret (v := x_15) hx hb hr (fun t ht hW => ⟨⟨x_15, S_7, rfl, ⟨hIS_7, YS_7, (fun x hx9 => by have hL : oI S_7 a1 = oI Z a1 := oX.f YS_7 ta1 (fun _ => nkw (by decide +kernel) (by decide +kernel) (by decide +kernel)); have hc : oI S_7 cd = oI Z cd := oX.f YS_7 tcd (fun _ => by rw [wk_ar (by omega)]; decide); exact (ex_15.trans (stk_end hq1_cut_4 (by rw [hEn]; show nE ≤ y_6.toInt.toNat; omega) hx9)))⟩, ⟨by rw [ht]; exact hP, va_K.moved hW.alike hK, hD⟩⟩, hS.F ht⟩) hS.2.2 dX0_worth_134
      · have dc_10 := c_nle (a := x_3.toInt) (b := y_6.toInt) rfl rfl c_10
        refine lv_aload_n hx hb dX0_worth_21 rfl (lv_at hl 3 rfl) ?_
        refine lv_iload hx hb dX0_worth_22 (lv_at hl 1 rfl) ?_
        have t_16 : oty S_7 cd (300 + nE) := (oX.ty XS_7 tcd)
        obtain ⟨q_17, hq_17⟩ := og (cq := cq) t_16.1 (oE_ar (n := nE) t_16.2 (by omega))
        refine va_iald hx hb hK hP q_17 0 hq_17 rfl (vp_in_iff.mpr (by omega)) dX0_worth_24 ?_
        refine lv_topi (fun x_18 ex_18 => ?_)
        refine lv_istore (lv' := [(6, .int x_18), (2, .int y_5), (5, .int y_6), (4, .int x_3), (3, .ref cd), (0, .ref o), (1, .ref a1)]) hx hb dX0_worth_25 hl (by decide +kernel) rfl (fun ls hl => ?_)
        refine lv_iload hx hb dX0_worth_27 (lv_at hl 0 rfl) ?_
        refine lv_bipush (v := (-11)) hx hb dX0_worth_29 (by decide +kernel) ?_
        refine lv_icmp_le (tgt := 82) hx hb dX0_worth_31 (by decide +kernel) (fun c_19 => ?_) (fun c_19 => ?_)
        · have dc_19 := c_le (a := x_18.toInt) (b := (-11)) rfl (by decide +kernel) c_19
          refine lv_iload_n hx hb dX0_worth_82 rfl (lv_at hl 1 rfl) ?_
          refine lv_iconst (v := 2) hx hb dX0_worth_83 (by decide +kernel) ?_
          refine lv_icmp_lt (tgt := 122) hx hb dX0_worth_84 (by decide +kernel) (fun c_20 => ?_) (fun c_20 => ?_)
          · have dc_20 := c_lt (a := y_5.toInt) (b := 2) rfl (by decide +kernel) c_20
            obtain ⟨x_21, ex_21⟩ : ∃ zq : Int32, y_6 + 1 = zq := ⟨_, rfl⟩
            have hx_21 : x_21.toInt = y_6.toInt + 1 := (iv_to ex_21).symm.trans (ad_i rfl (by decide +kernel) (by omega) (by omega))
            refine lv_iinc (v := x_21) (lv' := [(5, .int x_21), (6, .int x_18), (2, .int y_5), (4, .int x_3), (3, .ref cd), (0, .ref o), (1, .ref a1)]) hx hb dX0_worth_122 hl (k := 2) rfl ex_21 (by decide +kernel) rfl (fun ls hl => ?_)
            clear ex_21
            refine lv_goto (tgt := 14) hx hb dX0_worth_125 (by decide +kernel) ?_
            exact ih (n - 1) (by omega) y_5 x_21 S_7 _ _ ls (by omega) (by omega) (by omega) (by omega) (by have hL : oI S_7 a1 = oI Z a1 := oX.f YS_7 ta1 (fun _ => nkw (by decide +kernel) (by decide +kernel) (by decide +kernel)); have hc : oI S_7 cd = oI Z cd := oX.f YS_7 tcd (fun _ => by rw [wk_ar (by omega)]; decide); have i1 : x_21.toNatClampNeg = y_6.toNatClampNeg + 1 := (show x_21.toInt.toNat = y_6.toInt.toNat + 1 by omega); rw [i1]; exact stk_no (x := x_18) hq1_cut_4 (isE_x (x := x_18) (i := y_6) hE hEn (by omega) (by rw [← hc]; exact ex_18)) (Int32.le_iff_toInt_le.mpr (by have k11 : (-11 : Int32).toInt = -11 := (by decide +kernel); omega)) (show y_5.toInt.toNat < 2 by omega)) hIS_7 (oX.st oX.rf XS_7 (by decide +kernel)) hP hD hS pk_8 pk_9 (lv_sub hl [2, 0, 3, 4, 5, 6] rfl)
          · have dc_20 := c_nlt (a := y_5.toInt) (b := 2) rfl (by decide +kernel) c_20
            obtain ⟨x_22, ex_22⟩ : ∃ zq : Int32, y_5 + (-1) = zq := ⟨_, rfl⟩
            have hx_22 : x_22.toInt = y_5.toInt + (-1) := (iv_to ex_22).symm.trans (ad_i rfl (by decide +kernel) (by omega) (by omega))
            refine lv_iinc (v := x_22) (lv' := [(2, .int x_22), (6, .int x_18), (5, .int y_6), (4, .int x_3), (3, .ref cd), (0, .ref o), (1, .ref a1)]) hx hb dX0_worth_87 hl (k := 1) rfl ex_22 (by decide +kernel) rfl (fun ls hl => ?_)
            clear ex_22
            refine lv_aload_n hx hb dX0_worth_90 rfl (lv_at hl 5 rfl) ?_
            have t_23 : oty S_7 o 0 := (oX.ty XS_7 to)
            obtain ⟨q_24, hq_24⟩ := og (cq := cq) t_23.1 (oE_0 t_23.2)
            refine va_get (D := (dC, dI)) (ci := 0) (v := .ref sk) (C := RX0) (T := TX0) (N := 5) hx hb hts in_wsX0_worth_X0 hown hK hP q_24 hq_24 rfl 4 (by decide +kernel) (hts (.fieldLink RX0 20 "ShipOffice$Act" "stack" "[I") iw_X0_worth_2) (fun _ h9 => h9) (o_rd pk_9) dX0_worth_91 ?_
            refine lv_iload_n hx hb dX0_worth_94 rfl (lv_at hl 0 rfl) ?_
            refine lv_iconst (v := 1) hx hb dX0_worth_95 (by decide +kernel) ?_
            refine lv_isub hx hb dX0_worth_96 ?_
            refine lv_topi (fun x_25 ex_25 => ?_)
            have hx_25 : x_25.toInt = x_22.toInt - 1 := (iv_to ex_25).trans (sb_i rfl (by decide +kernel) (by omega) (by omega))
            refine lv_aload_n hx hb dX0_worth_97 rfl (lv_at hl 5 rfl) ?_
            refine va_get (D := (dC, dI)) (ci := 0) (v := .ref sk) (C := RX0) (T := TX0) (N := 5) hx hb hts in_wsX0_worth_X0 hown hK hP q_24 hq_24 rfl 4 (by decide +kernel) (hts (.fieldLink RX0 20 "ShipOffice$Act" "stack" "[I") iw_X0_worth_2) (fun _ h9 => h9) (o_rd pk_9) dX0_worth_98 ?_
            refine lv_iload_n hx hb dX0_worth_101 rfl (lv_at hl 0 rfl) ?_
            refine lv_iconst (v := 1) hx hb dX0_worth_102 (by decide +kernel) ?_
            refine lv_isub hx hb dX0_worth_103 ?_
            refine lv_topi (fun x_26 ex_26 => ?_)
            have hx_26 : x_26.toInt = x_22.toInt - 1 := (iv_to ex_26).trans (sb_i rfl (by decide +kernel) (by omega) (by omega))
            have t_27 : oty S_7 sk (1000 + (nE + 1)) := (oX.ty XS_7 tsk)
            obtain ⟨q_28, hq_28⟩ := og (cq := cq) t_27.1 (oE_as (n := (nE + 1)) t_27.2)
            refine va_iald hx hb hK hP q_28 0 hq_28 rfl (vp_in_iff.mpr (by omega)) dX0_worth_104 ?_
            refine lv_topi (fun x_29 ex_29 => ?_)
            refine lv_i2l (v := (x_29 : Int32).toInt64) hx hb dX0_worth_105 rfl ?_
            refine lv_aload_n hx hb dX0_worth_106 rfl (lv_at hl 5 rfl) ?_
            refine va_get (D := (dC, dI)) (ci := 0) (v := .ref sk) (C := RX0) (T := TX0) (N := 5) hx hb hts in_wsX0_worth_X0 hown hK hP q_24 hq_24 rfl 4 (by decide +kernel) (hts (.fieldLink RX0 20 "ShipOffice$Act" "stack" "[I") iw_X0_worth_2) (fun _ h9 => h9) (o_rd pk_9) dX0_worth_107 ?_
            refine lv_iload_n hx hb dX0_worth_110 rfl (lv_at hl 0 rfl) ?_
            refine va_iald hx hb hK hP q_28 0 hq_28 rfl (vp_in_iff.mpr (by omega)) dX0_worth_111 ?_
            refine lv_topi (fun x_30 ex_30 => ?_)
            refine lv_i2l (v := (x_30 : Int32).toInt64) hx hb dX0_worth_112 rfl ?_
            refine lv_bipush (v := (-11)) hx hb dX0_worth_113 (by decide +kernel) ?_
            refine lv_iload hx hb dX0_worth_115 (lv_at hl 1 rfl) ?_
            have ia_31 := iv_all x_18
            refine lv_isub hx hb dX0_worth_117 ?_
            refine lv_topi (fun x_32 ex_32 => ?_)
            have hx_32 : x_32.toInt = (-11) - x_18.toInt := (iv_to ex_32).trans (sb_i (by decide +kernel) rfl (by omega) (by omega))
            have hFc : ∀ q, va_A [] H.size q → A q := pu_free hS hA
            have hPc := hP.sub (ws' := []) [] rfl
            have hDc := hD.sub (ws' := []) [] (by decide +kernel) rfl
            have hKc := hK.sub (tys' := []) [] rfl
            refine va_calli (va_runS (As := [.long ((x_29 : Int32).toInt64), .long ((x_30 : Int32).toInt64), .int x_32]) (rest := [.int x_25, .ref sk]) ⟨hx, hb, hml, hown, hts⟩ (c_X0_joined_f l dC dI H.size  ((x_29 : Int32).toInt64) ((x_30 : Int32).toInt64) x_32) (va_cwS 3 hts gX0_worth_X0_joined rfl rfl rfl (by decide +kernel) ⟨(Nat.le_of_ble_eq_true rfl), (Nat.le_of_ble_eq_true rfl)⟩) (pr_S hPc hKc hDc) rfl rfl hl.1 rfl (lv_room (Nat.le_of_ble_eq_true rfl)) dX0_worth_118 ⟨(Nat.le_of_ble_eq_true rfl), (Nat.le_of_ble_eq_true rfl)⟩) hS (fun q _ h => hFc q h) hFc (fun r_34 u t H locs ht hvm w_33 hB hz1 hk1 hS => ?_)
            have hP := pu_keep hP hk1
            clear hk1 hz1 hvm hB ht hFc hPc hDc hKc
            have hx_35 := w_33
            refine va_iast hx hb hK hP hD hS q_28 0 hq_28 rfl (vp_in_iff.mpr (by omega)) dX0_worth_121 (fun H locs hP1 hD1 hS => ?_)
            obtain ⟨S_36, eS_36⟩ : ∃ zq, zq = setI S_7 sk (x_25 : Int32).toNatClampNeg r_34 := ⟨_, rfl⟩
            have hP : va_P (dC, dI) vwCl (oW cq S_36) H := by rw [eS_36]; exact cP (oset t_27.1 hq_28 hD rfl (he_as (n := (nE + 1)) t_27.2) neI) hP1
            have hD : va_D A (oW cq S_36) := by rw [eS_36]; exact cD (oset t_27.1 hq_28 hD rfl (he_as (n := (nE + 1)) t_27.2) neI) hD1
            clear hP1 hD1
            have hIS_36 : oInv S_36 := by rw [eS_36]; exact oInv.A (k := (1000 + (nE + 1))) hIS_7 t_27.2 (by omega)
            have XS_36 : oX [5001] S_7 S_36 := by rw [eS_36]; exact oX.I (k := (1000 + (nE + 1))) (key := 5001) t_27.2 wk_as (List.mem_singleton.mpr rfl)
            have pk_37 : oP S_36 o 3 = some cd := by rw [eS_36]; exact pk_8
            have pk_38 : oP S_36 o 4 = some sk := by rw [eS_36]; exact pk_9
            have X_39 : oX [5001] Z S_36 := oX.st YS_7 XS_36 (by decide +kernel)
            obtain ⟨x_40, ex_40⟩ : ∃ zq : Int32, y_6 + 1 = zq := ⟨_, rfl⟩
            have hx_40 : x_40.toInt = y_6.toInt + 1 := (iv_to ex_40).symm.trans (ad_i rfl (by decide +kernel) (by omega) (by omega))
            refine lv_iinc (v := x_40) (lv' := [(5, .int x_40), (2, .int x_22), (6, .int x_18), (4, .int x_3), (3, .ref cd), (0, .ref o), (1, .ref a1)]) hx hb dX0_worth_122 hl (k := 2) rfl ex_40 (by decide +kernel) rfl (fun ls hl => ?_)
            clear ex_40
            refine lv_goto (tgt := 14) hx hb dX0_worth_125 (by decide +kernel) ?_
            exact ih (n - 1) (by omega) x_22 x_40 S_36 _ _ ls (by omega) (by omega) (by omega) (by omega) (by have hL : oI S_7 a1 = oI Z a1 := oX.f YS_7 ta1 (fun _ => nkw (by decide +kernel) (by decide +kernel) (by decide +kernel)); have hc : oI S_7 cd = oI Z cd := oX.f YS_7 tcd (fun _ => by rw [wk_ar (by omega)]; decide); have i1 : x_40.toNatClampNeg = y_6.toNatClampNeg + 1 := (show x_40.toInt.toNat = y_6.toInt.toNat + 1 by omega); have j0 : y_5.toNatClampNeg = (y_5.toInt.toNat - 2) + 2 := (show y_5.toInt.toNat = _ by omega); have j1 : x_22.toNatClampNeg = (y_5.toInt.toNat - 2) + 1 := (show x_22.toInt.toNat = _ by omega); have hs := hq1_cut_4; rw [j0] at hs; rw [i1, j1]; exact stk_op (x := x_18) (a := x_29) (b := x_30) (v := r_34) hs (isE_x (x := x_18) (i := y_6) hE hEn (by omega) (by rw [← hc]; exact ex_18)) (Int32.le_iff_toInt_le.mpr (by have k11 : (-11 : Int32).toInt = -11 := (by decide +kernel); omega)) (by rw [ex_29]; exact congrArg (oI S_7 sk) (show x_26.toInt.toNat = _ by omega)) (by rw [ex_30]; exact congrArg (oI S_7 sk) (show x_22.toInt.toNat = _ by omega)) (by rw [← ex_32]; exact hx_35) (by rw [eS_36, setI_fun]; exact congrArg (fun k => upd (oI S_7 sk) k _) (show x_25.toInt.toNat = _ by omega))) hIS_36 (oX.st (oX.st oX.rf XS_7 (by decide +kernel)) XS_36 (by decide +kernel)) hP hD hS pk_37 pk_38 (lv_sub hl [1, 0, 3, 4, 5, 6] rfl)
        · have dc_19 := c_nle (a := x_18.toInt) (b := (-11)) rfl (by decide +kernel) c_19
          refine lv_iload_n hx hb dX0_worth_34 rfl (lv_at hl 1 rfl) ?_
          refine lv_aload_n hx hb dX0_worth_35 rfl (lv_at hl 5 rfl) ?_
          have t_41 : oty S_7 o 0 := (oX.ty XS_7 to)
          obtain ⟨q_42, hq_42⟩ := og (cq := cq) t_41.1 (oE_0 t_41.2)
          refine va_get (D := (dC, dI)) (ci := 0) (v := .ref sk) (C := RX0) (T := TX0) (N := 5) hx hb hts in_wsX0_worth_X0 hown hK hP q_42 hq_42 rfl 4 (by decide +kernel) (hts (.fieldLink RX0 20 "ShipOffice$Act" "stack" "[I") iw_X0_worth_2) (fun _ h9 => h9) (o_rd pk_9) dX0_worth_36 ?_
          have t_43 : oty S_7 sk (1000 + (nE + 1)) := (oX.ty XS_7 tsk)
          obtain ⟨q_44, hq_44⟩ := og (cq := cq) t_43.1 (oE_as (n := (nE + 1)) t_43.2)
          refine va_alen (v := nI (nE + 1)) hx hb hK hP q_44 0 hq_44 rfl rfl dX0_worth_39 ?_
          refine lv_topi (fun x_45 ex_45 => ?_)
          have hx_45 : x_45.toInt = ((nE + 1) : Int) := (iv_to ex_45).trans (nI_toInt (by omega))
          clear ex_45
          refine lv_icmp_ge (tgt := 82) hx hb dX0_worth_40 (by decide +kernel) (fun c_46 => ?_) (fun c_46 => ?_)
          · have dc_46 := c_le (a := x_45.toInt) (b := y_5.toInt) rfl rfl c_46
            exfalso; omega
          · have dc_46 := c_nle (a := x_45.toInt) (b := y_5.toInt) rfl rfl c_46
            refine lv_iconst (v := (-1)) hx hb dX0_worth_43 (by decide +kernel) ?_
            refine lv_iload hx hb dX0_worth_44 (lv_at hl 0 rfl) ?_
            have ia_47 := iv_all x_18
            refine lv_isub hx hb dX0_worth_46 ?_
            refine lv_topi (fun x_48 ex_48 => ?_)
            have hx_48 : x_48.toInt = (-1) - x_18.toInt := (iv_to ex_48).trans (sb_i (by decide +kernel) rfl (by omega) (by omega))
            refine lv_istore (lv' := [(7, .int x_48), (6, .int x_18), (2, .int y_5), (5, .int y_6), (4, .int x_3), (3, .ref cd), (0, .ref o), (1, .ref a1)]) hx hb dX0_worth_47 hl (by decide +kernel) rfl (fun ls hl => ?_)
            refine lv_aload_n hx hb dX0_worth_49 rfl (lv_at hl 6 rfl) ?_
            refine va_get (D := (dC, dI)) (ci := 0) (v := .ref sk) (C := RX0) (T := TX0) (N := 5) hx hb hts in_wsX0_worth_X0 hown hK hP q_42 hq_42 rfl 4 (by decide +kernel) (hts (.fieldLink RX0 20 "ShipOffice$Act" "stack" "[I") iw_X0_worth_2) (fun _ h9 => h9) (o_rd pk_9) dX0_worth_50 ?_
            refine lv_iload_n hx hb dX0_worth_53 rfl (lv_at hl 2 rfl) ?_
            refine lv_iload hx hb dX0_worth_54 (lv_at hl 0 rfl) ?_
            refine lv_if_lt (tgt := 73) hx hb dX0_worth_56 (by decide +kernel) (fun c_49 => ?_) (fun c_49 => ?_)
            · have dc_49 := c_lt (a := x_48.toInt) (b := 0) rfl (by decide +kernel) c_49
              refine lv_iload hx hb dX0_worth_73 (lv_at hl 1 rfl) ?_
              refine va_iast hx hb hK hP hD hS q_44 0 hq_44 rfl (vp_in_iff.mpr (by omega)) dX0_worth_75 (fun H locs hP1 hD1 hS => ?_)
              obtain ⟨S_50, eS_50⟩ : ∃ zq, zq = setI S_7 sk (y_5 : Int32).toNatClampNeg x_18 := ⟨_, rfl⟩
              have hP : va_P (dC, dI) vwCl (oW cq S_50) H := by rw [eS_50]; exact cP (oset t_43.1 hq_44 hD rfl (he_as (n := (nE + 1)) t_43.2) neI) hP1
              have hD : va_D A (oW cq S_50) := by rw [eS_50]; exact cD (oset t_43.1 hq_44 hD rfl (he_as (n := (nE + 1)) t_43.2) neI) hD1
              clear hP1 hD1
              have hIS_50 : oInv S_50 := by rw [eS_50]; exact oInv.A (k := (1000 + (nE + 1))) hIS_7 t_43.2 (by omega)
              have XS_50 : oX [5001] S_7 S_50 := by rw [eS_50]; exact oX.I (k := (1000 + (nE + 1))) (key := 5001) t_43.2 wk_as (List.mem_singleton.mpr rfl)
              have pk_51 : oP S_50 o 3 = some cd := by rw [eS_50]; exact pk_8
              have pk_52 : oP S_50 o 4 = some sk := by rw [eS_50]; exact pk_9
              have X_53 : oX [5001] Z S_50 := oX.st YS_7 XS_50 (by decide +kernel)
              obtain ⟨x_54, ex_54⟩ : ∃ zq : Int32, y_5 + 1 = zq := ⟨_, rfl⟩
              have hx_54 : x_54.toInt = y_5.toInt + 1 := (iv_to ex_54).symm.trans (ad_i rfl (by decide +kernel) (by omega) (by omega))
              refine lv_iinc (v := x_54) (lv' := [(2, .int x_54), (7, .int x_48), (6, .int x_18), (5, .int y_6), (4, .int x_3), (3, .ref cd), (0, .ref o), (1, .ref a1)]) hx hb dX0_worth_76 hl (k := 2) rfl ex_54 (by decide +kernel) rfl (fun ls hl => ?_)
              clear ex_54
              refine lv_goto (tgt := 122) hx hb dX0_worth_79 (by decide +kernel) ?_
              obtain ⟨x_55, ex_55⟩ : ∃ zq : Int32, y_6 + 1 = zq := ⟨_, rfl⟩
              have hx_55 : x_55.toInt = y_6.toInt + 1 := (iv_to ex_55).symm.trans (ad_i rfl (by decide +kernel) (by omega) (by omega))
              refine lv_iinc (v := x_55) (lv' := [(5, .int x_55), (2, .int x_54), (7, .int x_48), (6, .int x_18), (4, .int x_3), (3, .ref cd), (0, .ref o), (1, .ref a1)]) hx hb dX0_worth_122 hl (k := 3) rfl ex_55 (by decide +kernel) rfl (fun ls hl => ?_)
              clear ex_55
              refine lv_goto (tgt := 14) hx hb dX0_worth_125 (by decide +kernel) ?_
              exact ih (n - 1) (by omega) x_54 x_55 S_50 _ _ ls (by omega) (by omega) (by omega) (by omega) (by have hL : oI S_7 a1 = oI Z a1 := oX.f YS_7 ta1 (fun _ => nkw (by decide +kernel) (by decide +kernel) (by decide +kernel)); have hc : oI S_7 cd = oI Z cd := oX.f YS_7 tcd (fun _ => by rw [wk_ar (by omega)]; decide); have i1 : x_55.toNatClampNeg = y_6.toNatClampNeg + 1 := (show x_55.toInt.toNat = y_6.toInt.toNat + 1 by omega); rw [i1, show x_54.toNatClampNeg = y_5.toNatClampNeg + 1 from (show x_54.toInt.toNat = y_5.toInt.toNat + 1 by omega)]; exact stk_push (x := x_18) hq1_cut_4 (isE_x (x := x_18) (i := y_6) hE hEn (by omega) (by rw [← hc]; exact ex_18)) (fun q => by have k11 : (-11 : Int32).toInt = -11 := (by decide +kernel); have := Int32.le_iff_toInt_le.mp q; omega) (vlO_2 ex_48 (by omega)) (by rw [eS_50, setI_fun])) hIS_50 (oX.st (oX.st oX.rf XS_7 (by decide +kernel)) XS_50 (by decide +kernel)) hP hD hS pk_51 pk_52 (lv_sub hl [1, 0, 4, 5, 6, 7] rfl)
            · have dc_49 := c_nlt (a := x_48.toInt) (b := 0) rfl (by decide +kernel) c_49
              refine lv_iload hx hb dX0_worth_59 (lv_at hl 0 rfl) ?_
              refine lv_aload_n hx hb dX0_worth_61 rfl (lv_at hl 7 rfl) ?_
              have t_56 : oty S_7 a1 108 := (oX.ty XS_7 ta1)
              obtain ⟨q_57, hq_57⟩ := og (cq := cq) t_56.1 (oE_a1 (n := 8) t_56.2 (by decide +kernel))
              refine va_alen (v := 8) hx hb hK hP q_57 0 hq_57 rfl (show Int32.ofNat 8 = 8 by decide) dX0_worth_62 ?_
              refine lv_icmp_ge (tgt := 73) hx hb dX0_worth_63 (by decide +kernel) (fun c_58 => ?_) (fun c_58 => ?_)
              · have dc_58 := c_le (a := 8) (b := x_48.toInt) (by decide +kernel) rfl c_58
                refine lv_iload hx hb dX0_worth_73 (lv_at hl 1 rfl) ?_
                refine va_iast hx hb hK hP hD hS q_44 0 hq_44 rfl (vp_in_iff.mpr (by omega)) dX0_worth_75 (fun H locs hP1 hD1 hS => ?_)
                obtain ⟨S_59, eS_59⟩ : ∃ zq, zq = setI S_7 sk (y_5 : Int32).toNatClampNeg x_18 := ⟨_, rfl⟩
                have hP : va_P (dC, dI) vwCl (oW cq S_59) H := by rw [eS_59]; exact cP (oset t_43.1 hq_44 hD rfl (he_as (n := (nE + 1)) t_43.2) neI) hP1
                have hD : va_D A (oW cq S_59) := by rw [eS_59]; exact cD (oset t_43.1 hq_44 hD rfl (he_as (n := (nE + 1)) t_43.2) neI) hD1
                clear hP1 hD1
                have hIS_59 : oInv S_59 := by rw [eS_59]; exact oInv.A (k := (1000 + (nE + 1))) hIS_7 t_43.2 (by omega)
                have XS_59 : oX [5001] S_7 S_59 := by rw [eS_59]; exact oX.I (k := (1000 + (nE + 1))) (key := 5001) t_43.2 wk_as (List.mem_singleton.mpr rfl)
                have pk_60 : oP S_59 o 3 = some cd := by rw [eS_59]; exact pk_8
                have pk_61 : oP S_59 o 4 = some sk := by rw [eS_59]; exact pk_9
                have X_62 : oX [5001] Z S_59 := oX.st YS_7 XS_59 (by decide +kernel)
                obtain ⟨x_63, ex_63⟩ : ∃ zq : Int32, y_5 + 1 = zq := ⟨_, rfl⟩
                have hx_63 : x_63.toInt = y_5.toInt + 1 := (iv_to ex_63).symm.trans (ad_i rfl (by decide +kernel) (by omega) (by omega))
                refine lv_iinc (v := x_63) (lv' := [(2, .int x_63), (7, .int x_48), (6, .int x_18), (5, .int y_6), (4, .int x_3), (3, .ref cd), (0, .ref o), (1, .ref a1)]) hx hb dX0_worth_76 hl (k := 2) rfl ex_63 (by decide +kernel) rfl (fun ls hl => ?_)
                clear ex_63
                refine lv_goto (tgt := 122) hx hb dX0_worth_79 (by decide +kernel) ?_
                obtain ⟨x_64, ex_64⟩ : ∃ zq : Int32, y_6 + 1 = zq := ⟨_, rfl⟩
                have hx_64 : x_64.toInt = y_6.toInt + 1 := (iv_to ex_64).symm.trans (ad_i rfl (by decide +kernel) (by omega) (by omega))
                refine lv_iinc (v := x_64) (lv' := [(5, .int x_64), (2, .int x_63), (7, .int x_48), (6, .int x_18), (4, .int x_3), (3, .ref cd), (0, .ref o), (1, .ref a1)]) hx hb dX0_worth_122 hl (k := 3) rfl ex_64 (by decide +kernel) rfl (fun ls hl => ?_)
                clear ex_64
                refine lv_goto (tgt := 14) hx hb dX0_worth_125 (by decide +kernel) ?_
                exact ih (n - 1) (by omega) x_63 x_64 S_59 _ _ ls (by omega) (by omega) (by omega) (by omega) (by have hL : oI S_7 a1 = oI Z a1 := oX.f YS_7 ta1 (fun _ => nkw (by decide +kernel) (by decide +kernel) (by decide +kernel)); have hc : oI S_7 cd = oI Z cd := oX.f YS_7 tcd (fun _ => by rw [wk_ar (by omega)]; decide); have i1 : x_64.toNatClampNeg = y_6.toNatClampNeg + 1 := (show x_64.toInt.toNat = y_6.toInt.toNat + 1 by omega); rw [i1, show x_63.toNatClampNeg = y_5.toNatClampNeg + 1 from (show x_63.toInt.toNat = y_5.toInt.toNat + 1 by omega)]; exact stk_push (x := x_18) hq1_cut_4 (isE_x (x := x_18) (i := y_6) hE hEn (by omega) (by rw [← hc]; exact ex_18)) (fun q => by have k11 : (-11 : Int32).toInt = -11 := (by decide +kernel); have := Int32.le_iff_toInt_le.mp q; omega) (vlO_2 ex_48 (by omega)) (by rw [eS_59, setI_fun])) hIS_59 (oX.st (oX.st oX.rf XS_7 (by decide +kernel)) XS_59 (by decide +kernel)) hP hD hS pk_60 pk_61 (lv_sub hl [1, 0, 4, 5, 6, 7] rfl)
              · have dc_58 := c_nle (a := 8) (b := x_48.toInt) (by decide +kernel) rfl c_58
                refine lv_aload_n hx hb dX0_worth_66 rfl (lv_at hl 7 rfl) ?_
                refine lv_iload hx hb dX0_worth_67 (lv_at hl 0 rfl) ?_
                refine va_iald hx hb hK hP q_57 0 hq_57 rfl (vp_in_iff.mpr (by omega)) dX0_worth_69 ?_
                refine lv_topi (fun x_65 ex_65 => ?_)
                refine lv_goto (tgt := 75) hx hb dX0_worth_70 (by decide +kernel) ?_
                refine va_iast hx hb hK hP hD hS q_44 0 hq_44 rfl (vp_in_iff.mpr (by omega)) dX0_worth_75 (fun H locs hP1 hD1 hS => ?_)
                obtain ⟨S_66, eS_66⟩ : ∃ zq, zq = setI S_7 sk (y_5 : Int32).toNatClampNeg x_65 := ⟨_, rfl⟩
                have hP : va_P (dC, dI) vwCl (oW cq S_66) H := by rw [eS_66]; exact cP (oset t_43.1 hq_44 hD rfl (he_as (n := (nE + 1)) t_43.2) neI) hP1
                have hD : va_D A (oW cq S_66) := by rw [eS_66]; exact cD (oset t_43.1 hq_44 hD rfl (he_as (n := (nE + 1)) t_43.2) neI) hD1
                clear hP1 hD1
                have hIS_66 : oInv S_66 := by rw [eS_66]; exact oInv.A (k := (1000 + (nE + 1))) hIS_7 t_43.2 (by omega)
                have XS_66 : oX [5001] S_7 S_66 := by rw [eS_66]; exact oX.I (k := (1000 + (nE + 1))) (key := 5001) t_43.2 wk_as (List.mem_singleton.mpr rfl)
                have pk_67 : oP S_66 o 3 = some cd := by rw [eS_66]; exact pk_8
                have pk_68 : oP S_66 o 4 = some sk := by rw [eS_66]; exact pk_9
                have X_69 : oX [5001] Z S_66 := oX.st YS_7 XS_66 (by decide +kernel)
                obtain ⟨x_70, ex_70⟩ : ∃ zq : Int32, y_5 + 1 = zq := ⟨_, rfl⟩
                have hx_70 : x_70.toInt = y_5.toInt + 1 := (iv_to ex_70).symm.trans (ad_i rfl (by decide +kernel) (by omega) (by omega))
                refine lv_iinc (v := x_70) (lv' := [(2, .int x_70), (7, .int x_48), (6, .int x_18), (5, .int y_6), (4, .int x_3), (3, .ref cd), (0, .ref o), (1, .ref a1)]) hx hb dX0_worth_76 hl (k := 2) rfl ex_70 (by decide +kernel) rfl (fun ls hl => ?_)
                clear ex_70
                refine lv_goto (tgt := 122) hx hb dX0_worth_79 (by decide +kernel) ?_
                obtain ⟨x_71, ex_71⟩ : ∃ zq : Int32, y_6 + 1 = zq := ⟨_, rfl⟩
                have hx_71 : x_71.toInt = y_6.toInt + 1 := (iv_to ex_71).symm.trans (ad_i rfl (by decide +kernel) (by omega) (by omega))
                refine lv_iinc (v := x_71) (lv' := [(5, .int x_71), (2, .int x_70), (7, .int x_48), (6, .int x_18), (4, .int x_3), (3, .ref cd), (0, .ref o), (1, .ref a1)]) hx hb dX0_worth_122 hl (k := 3) rfl ex_71 (by decide +kernel) rfl (fun ls hl => ?_)
                clear ex_71
                refine lv_goto (tgt := 14) hx hb dX0_worth_125 (by decide +kernel) ?_
                exact ih (n - 1) (by omega) x_70 x_71 S_66 _ _ ls (by omega) (by omega) (by omega) (by omega) (by have hL : oI S_7 a1 = oI Z a1 := oX.f YS_7 ta1 (fun _ => nkw (by decide +kernel) (by decide +kernel) (by decide +kernel)); have hc : oI S_7 cd = oI Z cd := oX.f YS_7 tcd (fun _ => by rw [wk_ar (by omega)]; decide); have i1 : x_71.toNatClampNeg = y_6.toNatClampNeg + 1 := (show x_71.toInt.toNat = y_6.toInt.toNat + 1 by omega); rw [i1, show x_70.toNatClampNeg = y_5.toNatClampNeg + 1 from (show x_70.toInt.toNat = y_5.toInt.toNat + 1 by omega)]; exact stk_push (x := x_18) hq1_cut_4 (isE_x (x := x_18) (i := y_6) hE hEn (by omega) (by rw [← hc]; exact ex_18)) (fun q => by have k11 : (-11 : Int32).toInt = -11 := (by decide +kernel); have := Int32.le_iff_toInt_le.mp q; omega) (vlO_1 (L := oI Z a1) (v := x_65) (x := x_18) ex_48 (by omega) (by omega) (by rw [← hL]; exact ex_65)) (by rw [eS_66, setI_fun])) hIS_66 (oX.st (oX.st oX.rf XS_7 (by decide +kernel)) XS_66 (by decide +kernel)) hP hD hS pk_67 pk_68 (lv_sub hl [1, 0, 4, 5, 6, 7] rfl)
  have kc_72 : (0 : Int32).toInt = 0 := by decide
  exact cut_4 61 0 0 Z _ _ ls (by omega) (by decide +kernel) (by decide +kernel) (by omega) stk_0 gI oX.rf hP hD hS hcd hsk (lv_sub hl [3, 0, 1, 2, 4, 5] rfl)
