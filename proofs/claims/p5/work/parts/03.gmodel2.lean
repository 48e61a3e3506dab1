def tyX11 : Nat → FieldType := fun k => match k with
  | 0 => .array .int
  | 1 => .array .int
  | 2 => .array .int
  | 3 => .array .int
  | 4 => .array .int
  | 5 => .array .int
  | 6 => .array .int
  | 7 => .array .int
  | 8 => .array .int
  | 9 => .array .int
  | 10 => .array .int
  | 11 => .array .int
  | 12 => .array .int
  | 13 => .array .int
  | 14 => .array .int
  | 15 => .array .int
  | 16 => .array .int
  | 17 => .array .int
  | 18 => .array .int
  | 19 => .array .int
  | 20 => .array .int
  | 21 => .array .int
  | 22 => .array .int
  | 23 => .array .int
  | 24 => .array .int
  | 25 => .array .int
  | 26 => .array .int
  | 27 => .array .int
  | 28 => .array .int
  | 29 => .array .int
  | 30 => .array .int
  | 31 => .array .int
  | 32 => .array .int
  | 33 => .array .int
  | 34 => .array .int
  | 35 => .array .int
  | 36 => .array .int
  | 37 => .array .boolean
  | 38 => .int
  | 39 => .int
  | 40 => .int
  | 41 => .int
  | 42 => .int
  | 43 => .int
  | 44 => .array .int
  | 45 => .array .int
  | 46 => .int
  | 47 => .int
  | 48 => .int
  | 49 => .int
  | 50 => .int
  | 51 => .boolean
  | 52 => .array .int
  | 53 => .array .int
  | 54 => .array .int
  | 55 => .array .int
  | 56 => .array .int
  | 57 => .array .int
  | 58 => .int
  | 59 => .int
  | 60 => .int
  | 61 => .array .int
  | _ => .int
theorem nmX11 : ∀ a, a < 63 → ∀ b, b < 63 → a ≠ b → (TX11 a).2.1 ≠ (TX11 b).2.1 := by decide +kernel
theorem tyX11_ok : ∀ k, k < 63 → parseFieldDescriptor (TX11 k).2.2.1 = some (tyX11 k) := by decide +kernel
abbrev cX11_days : ByteArray := prog_13_method_9_code
def yX11_days : MethodName := ⟨RX11, "days", "(I)I"⟩
theorem gw_X11_refuse : wsX11_refuse.all goodWord = true := by decide +kernel
def wsX11_days : List Cond := .code yX11_days cX11_days 2 (some .int) :: ([.fieldLink RX11 171 "ShipOfficeModel" "now" "I", .methodLink RX11 153 yX11_refuse, .instanceMethod yX11_refuse, .selects RX11 yX11_refuse yX11_refuse, .initialized RX11, .code yX11_refuse cX11_refuse 2 (some .int), .fieldLink RX11 7 "ShipOfficeModel" "refusals" "[I"] ++ wsX110)
theorem il_X11_days_1 : ∀ w ∈ ([.fieldLink RX11 171 "ShipOfficeModel" "now" "I", .methodLink RX11 153 yX11_refuse, .instanceMethod yX11_refuse, .selects RX11 yX11_refuse yX11_refuse, .initialized RX11, .code yX11_refuse cX11_refuse 2 (some .int), .fieldLink RX11 7 "ShipOfficeModel" "refusals" "[I"] : List Cond), w ∈ wsX11_days := fun w h => (List.mem_cons_of_mem _ (List.mem_append_left _ h))
theorem il_X11_days_2 : ∀ w ∈ wsX110, w ∈ wsX11_days := fun w h => (List.mem_cons_of_mem _ (List.mem_append_right _ h))
theorem iw_X11_days_1 : Cond.fieldLink RX11 171 "ShipOfficeModel" "now" "I" ∈ wsX11_days := (mmI il_X11_days_1 0 rfl)
set_option maxRecDepth 100000 in
theorem ggX11_days_X11_refuse : GoodIn wsX11_days wsX11_refuse := goodIn_sub (mmC (mmI il_X11_days_1 5 rfl) (mmA (mmC (mmI il_X11_days_1 6 rfl) mmN) il_X11_days_2)) gw_X11_refuse
theorem gX11_days_X11_refuse : GoodIn wsX11_days (wsV RX11 153 RX11 yX11_refuse wsX11_refuse) := goodIn_app (goodIn_sub (mmC (mmI il_X11_days_1 1 rfl) (mmC (mmI il_X11_days_1 2 rfl) (mmC (mmI il_X11_days_1 3 rfl) (mmC (mmI il_X11_days_1 4 rfl) mmN)))) (by decide +kernel)) ggX11_days_X11_refuse
theorem dX11_days_0 : decode cX11_days 0 = .ok (.iload_n 1, 1) := by decide +kernel
theorem dX11_days_1 : decode cX11_days 1 = .ok (.iconst 1, 1) := by decide +kernel
theorem dX11_days_2 : decode cX11_days 2 = .ok (.if_icmp .ge 10, 3) := by decide +kernel
theorem dX11_days_5 : decode cX11_days 5 = .ok (.aload_n 0, 1) := by decide +kernel
theorem dX11_days_6 : decode cX11_days 6 = .ok (.bipush (-4), 2) := by decide +kernel
theorem dX11_days_8 : decode cX11_days 8 = .ok (.invokevirtual 153, 3) := by decide +kernel
theorem dX11_days_11 : decode cX11_days 11 = .ok (.ireturn, 1) := by decide +kernel
theorem dX11_days_12 : decode cX11_days 12 = .ok (.iload_n 1, 1) := by decide +kernel
theorem dX11_days_13 : decode cX11_days 13 = .ok (.sipush 3000, 3) := by decide +kernel
theorem dX11_days_16 : decode cX11_days 16 = .ok (.aload_n 0, 1) := by decide +kernel
theorem dX11_days_17 : decode cX11_days 17 = .ok (.getfield 171, 3) := by decide +kernel
theorem dX11_days_20 : decode cX11_days 20 = .ok (.isub, 1) := by decide +kernel
theorem dX11_days_21 : decode cX11_days 21 = .ok (.if_icmp .le 10, 3) := by decide +kernel
theorem dX11_days_24 : decode cX11_days 24 = .ok (.aload_n 0, 1) := by decide +kernel
theorem dX11_days_25 : decode cX11_days 25 = .ok (.bipush (-6), 2) := by decide +kernel
theorem dX11_days_27 : decode cX11_days 27 = .ok (.invokevirtual 153, 3) := by decide +kernel
theorem dX11_days_30 : decode cX11_days 30 = .ok (.ireturn, 1) := by decide +kernel
theorem dX11_days_31 : decode cX11_days 31 = .ok (.aload_n 0, 1) := by decide +kernel
theorem dX11_days_32 : decode cX11_days 32 = .ok (.dup, 1) := by decide +kernel
theorem dX11_days_33 : decode cX11_days 33 = .ok (.getfield 171, 3) := by decide +kernel
theorem dX11_days_36 : decode cX11_days 36 = .ok (.iload_n 1, 1) := by decide +kernel
theorem dX11_days_37 : decode cX11_days 37 = .ok (.iadd, 1) := by decide +kernel
theorem dX11_days_38 : decode cX11_days 38 = .ok (.putfield 171, 3) := by decide +kernel
theorem dX11_days_41 : decode cX11_days 41 = .ok (.aload_n 0, 1) := by decide +kernel
theorem dX11_days_42 : decode cX11_days 42 = .ok (.getfield 171, 3) := by decide +kernel
theorem dX11_days_45 : decode cX11_days 45 = .ok (.ireturn, 1) := by decide +kernel
theorem in_wsX11_days_X11 : ∀ w ∈ wsX110, w ∈ wsX11_days := fun w h => List.mem_cons_of_mem _ (List.mem_append_right _ h)
/-- days(n) of the reference, in any state -/
def gdays (v : Nat → Int32) (fa : Nat → Nat → Int32) (n r : Int32) (u : (Nat → Int32) × (Nat → Nat → Int32)) : Prop := if 1 ≤ n then (if n ≤ 3000 - v 38 then r = v 38 + n ∧ u.1 = upd v 38 (v 38 + n) ∧ u.2 = fa else r = -6 ∧ sm0 v fa u) else r = -4 ∧ sm0 v fa u
set_option maxHeartbeats 4000000 in
set_option maxRecDepth 100000 in
theorem c_X11_days (l : Launch) (dC : Nat → ClassId) (dI : Nat → Nat → Nat) (sz : Nat) (g0 : Nat) (pq : Nat → Nat) (cp : Nat → ClassId) (v : Nat → Int32) (fa : Nat → Nat → Int32) (a1 : Int32) : Met l yX11_days wsX11_days ({ frames := 1, cells := 0, slots := 0, locals := 21 }) (va_Pc [.ref g0, .int a1] (pcW (dC, dI) (mT cp) (mW g0 pq cp v fa) sz)) (va_Qi (fun (r : Int32) (u : (Nat → Int32) × (Nat → Nat → Int32)) => gdays v fa a1 r u) (fun u t => va_P (dC, dI) vwCl (mW g0 pq cp u.1 u.2) t.heap ∧ va_K (dC, dI) vwCl (mT cp) t ∧ va_D (va_A (mW g0 pq cp v fa) sz) (mW g0 pq cp u.1 u.2)) (va_A (mW g0 pq cp v fa) sz)) 0 0 (va_A (mW g0 pq cp v fa) sz) := by
  refine Met.ofW (cc := cX11_days) (maxL := 2) (ret := (some .int)) (by decide) rfl ?_
  intro p e s m args below meth c s₁ B hml hv
  obtain ⟨rfl, hsz, hP, hK, hD0⟩ := hv
  have hx := B.exec
  have hb := B.bytes
  have hr := B.returns
  have hts := atoms_spec (ws := wsX11_days) B.pre
  have hown : s.vm.findClass RX11 = some m.cls := findClass_of_methodNamed B.named
  have hlocks := B.notSynchronized
  subst hsz
  have hD := hD0.self (sz := s.heap.size)
  generalize hAe : va_A (mW g0 pq cp v fa) s.heap.size = A at hD ⊢
  have hA : ∀ q : Nat, s.heap.size ≤ q → A q := fun q h => by rw [← hAe]; exact Or.inr h
  have hS : va_S A s.heap s.heap [] := va_S.rf
  have hP : va_P (dC, dI) vwCl (mW g0 pq cp v fa) s.heap := hP
  have hl := lv_entry ([.ref g0, .int a1]) (n := 2) (Nat.le_of_ble_eq_true rfl)
  rw [lg_entry_eq]
  generalize (lg_sl ([.ref g0, .int a1]) ++ List.replicate (2 - (lg_sl ([.ref g0, .int a1])).length) Slot.unset).toArray = ls at hl ⊢
  have hl : lv_has ls 2 [(0, .ref g0), (1, .int a1)] := hl
  refine lv_iload_n hx hb dX11_days_0 rfl (lv_at hl 1 rfl) ?_
  refine lv_iconst (v := 1) hx hb dX11_days_1 (by decide) ?_
  refine lv_icmp_ge (tgt := 12) hx hb dX11_days_2 (by decide) (fun c_1 => ?_) (fun c_1 => ?_)
  · refine lv_iload_n hx hb dX11_days_12 rfl (lv_at hl 1 rfl) ?_
    refine lv_sipush (v := 3000) hx hb dX11_days_13 (by decide) ?_
    refine lv_aload_n hx hb dX11_days_16 rfl (lv_at hl 0 rfl) ?_
    refine va_get (D := (dC, dI)) (ci := 11) (v := .int (v 38)) (C := RX11) (T := TX11) (N := 63) hx hb hts in_wsX11_days_X11 hown hK hP 0 rfl rfl 38 (by decide) (hts (.fieldLink RX11 171 "ShipOfficeModel" "now" "I") iw_X11_days_1) (fun _ h9 => h9) rfl dX11_days_17 ?_
    refine lv_isub hx hb dX11_days_20 ?_
    refine lv_icmp_le (tgt := 31) hx hb dX11_days_21 (by decide) (fun c_2 => ?_) (fun c_2 => ?_)
    · refine lv_aload_n hx hb dX11_days_31 rfl (lv_at hl 0 rfl) ?_
      refine lv_dup hx hb dX11_days_32 rfl ?_
      refine va_get (D := (dC, dI)) (ci := 11) (v := .int (v 38)) (C := RX11) (T := TX11) (N := 63) hx hb hts in_wsX11_days_X11 hown hK hP 0 rfl rfl 38 (by decide) (hts (.fieldLink RX11 171 "ShipOfficeModel" "now" "I") iw_X11_days_1) (fun _ h9 => h9) rfl dX11_days_33 ?_
      refine lv_iload_n hx hb dX11_days_36 rfl (lv_at hl 1 rfl) ?_
      refine lv_iadd hx hb dX11_days_37 ?_
      refine va_put (D := (dC, dI)) (ci := 11) (v := .int ((v 38) + a1)) (ty := .int) (C := RX11) (T := TX11) (N := 63) hx hb hts in_wsX11_days_X11 tyX11 tyX11_ok nmX11 hown hK hP hD hS 0 rfl rfl 38 (by decide) (hts (.fieldLink RX11 171 "ShipOfficeModel" "now" "I") iw_X11_days_1) (fun _ h9 => h9) rfl (by decide +kernel) rfl rfl (Nat.le_of_ble_eq_true rfl) dX11_days_38 (fun H locs hP hD hS => ?_)
      have hP : va_P (dC, dI) vwCl (mW g0 pq cp (upd v 38 ((v 38) + a1)) fa) H := hP
      have hD : va_D A (mW g0 pq cp (upd v 38 ((v 38) + a1)) fa) := hD
      refine lv_aload_n hx hb dX11_days_41 rfl (lv_at hl 0 rfl) ?_
      refine va_get (D := (dC, dI)) (ci := 11) (v := .int ((upd v 38 ((v 38) + a1)) 38)) (C := RX11) (T := TX11) (N := 63) hx hb hts in_wsX11_days_X11 hown hK hP 0 rfl rfl 38 (by decide) (hts (.fieldLink RX11 171 "ShipOfficeModel" "now" "I") iw_X11_days_1) (fun _ h9 => h9) rfl dX11_days_42 ?_
      exact W.iret (v := ((upd v 38 ((v 38) + a1)) 38)) hx hb hr (fun t ht hW => ⟨⟨((upd v 38 ((v 38) + a1)) 38), ((upd v 38 ((v 38) + a1)), fa), rfl, (by show gdays _ _ _ _ _; unfold gdays; rw [if_pos c_1, if_pos c_2]; exact ⟨rfl, rfl, rfl⟩), ⟨by rw [ht]; exact hP, va_K.moved hW.alike hK, hD⟩⟩, hS.F ht⟩) hS.2.2 dX11_days_45
    · refine lv_aload_n hx hb dX11_days_24 rfl (lv_at hl 0 rfl) ?_
      refine lv_bipush (v := (-6)) hx hb dX11_days_25 (by decide) ?_
      have hFc := va_free (wc := (mW g0 pq cp v fa)) hD hS hA (List.range 48) rfl
      refine va_calli (va_runV (As := [.int (-6)]) (rest := []) ⟨hx, hb, hml, hown, hts⟩ (c_X11_refuse l dC dI s.heap.size g0 pq cp v fa (-6) (by unfold vp_in; decide)) (cwV 1 hts gX11_days_X11_refuse rfl rfl rfl (by decide +kernel) ⟨(Nat.le_of_ble_eq_true rfl), (Nat.le_of_ble_eq_true rfl)⟩) (pr_V (r := (RX11, TX11, 63)) hP hK hD 0 11 rfl rfl) rfl rfl hl.1 rfl (lv_room (Nat.le_of_ble_eq_true rfl)) dX11_days_27 ⟨(Nat.le_of_ble_eq_true rfl), (Nat.le_of_ble_eq_true rfl)⟩) hS (fun q _ h => hFc q h) hFc (fun r_4 u t H locs ht hvm w_3 hB hz1 hk1 hS => ?_)
      obtain ⟨v_5, fa_6⟩ := u
      obtain ⟨hP1, hK1, hD1⟩ := hB
      rw [ht] at hP1
      have hP : va_P (dC, dI) vwCl (mW g0 pq cp v_5 fa_6) H := hP1
      have hD : va_D A (mW g0 pq cp v_5 fa_6) := hD1.weaken (fun _ _ _ h => hFc _ h)
      clear hP1 hK1 hD1 hk1 hz1 hvm ht hFc
      obtain ⟨rfl, w_3⟩ := w_3
      exact W.iret (v := (-6)) hx hb hr (fun t ht hW => ⟨⟨(-6), (v_5, fa_6), rfl, (by show gdays _ _ _ _ _; unfold gdays; rw [if_pos c_1, if_neg c_2]; exact ⟨rfl, w_3⟩), ⟨by rw [ht]; exact hP, va_K.moved hW.alike hK, hD⟩⟩, hS.F ht⟩) hS.2.2 dX11_days_30
  · refine lv_aload_n hx hb dX11_days_5 rfl (lv_at hl 0 rfl) ?_
    refine lv_bipush (v := (-4)) hx hb dX11_days_6 (by decide) ?_
    have hFc := va_free (wc := (mW g0 pq cp v fa)) hD hS hA (List.range 48) rfl
    refine va_calli (va_runV (As := [.int (-4)]) (rest := []) ⟨hx, hb, hml, hown, hts⟩ (c_X11_refuse l dC dI s.heap.size g0 pq cp v fa (-4) (by unfold vp_in; decide)) (cwV 1 hts gX11_days_X11_refuse rfl rfl rfl (by decide +kernel) ⟨(Nat.le_of_ble_eq_true rfl), (Nat.le_of_ble_eq_true rfl)⟩) (pr_V (r := (RX11, TX11, 63)) hP hK hD 0 11 rfl rfl) rfl rfl hl.1 rfl (lv_room (Nat.le_of_ble_eq_true rfl)) dX11_days_8 ⟨(Nat.le_of_ble_eq_true rfl), (Nat.le_of_ble_eq_true rfl)⟩) hS (fun q _ h => hFc q h) hFc (fun r_8 u t H locs ht hvm w_7 hB hz1 hk1 hS => ?_)
    obtain ⟨v_9, fa_10⟩ := u
    obtain ⟨hP1, hK1, hD1⟩ := hB
    rw [ht] at hP1
    have hP : va_P (dC, dI) vwCl (mW g0 pq cp v_9 fa_10) H := hP1
    have hD : va_D A (mW g0 pq cp v_9 fa_10) := hD1.weaken (fun _ _ _ h => hFc _ h)
    clear hP1 hK1 hD1 hk1 hz1 hvm ht hFc
    obtain ⟨rfl, w_7⟩ := w_7
    exact W.iret (v := (-4)) hx hb hr (fun t ht hW => ⟨⟨(-4), (v_9, fa_10), rfl, (by show gdays _ _ _ _ _; unfold gdays; rw [if_neg c_1]; exact ⟨rfl, w_7⟩), ⟨by rw [ht]; exact hP, va_K.moved hW.alike hK, hD⟩⟩, hS.F ht⟩) hS.2.2 dX11_days_11
