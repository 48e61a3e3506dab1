abbrev cX11_goesThrough : ByteArray := prog_13_method_34_code
def yX11_goesThrough : MethodName := ⟨RX11, "goesThrough", "(II)I"⟩
def wsX11_goesThrough_r1 : List Cond := [Cond.fieldLink RX11 216 "ShipOfficeModel" "base" "I", Cond.fieldLink RX11 213 "ShipOfficeModel" "size" "I", Cond.fieldLink RX11 210 "ShipOfficeModel" "at" "I", Cond.fieldLink RX11 244 "ShipOfficeModel" "deep" "I", Cond.fieldLink RX11 223 "ShipOfficeModel" "isWell" "Z", Cond.methodLink RX11 250 yX11_sum, Cond.instanceMethod yX11_sum, Cond.selects RX11 yX11_sum yX11_sum, Cond.initialized RX11, Cond.code yX11_sum cX11_sum 4 (some .int), Cond.methodLink RX11 231 yX11_term, Cond.instanceMethod yX11_term, Cond.selects RX11 yX11_term yX11_term, Cond.methodLink RX11 227 yX11_sign, Cond.instanceMethod yX11_sign, Cond.selects RX11 yX11_sign yX11_sign, Cond.code yX11_sign cX11_sign 1 (some .int), Cond.fieldLink RX11 125 "ShipOfficeModel" "tape" "[I", Cond.fieldLink RX11 67 "ShipOfficeModel" "text" "[I", Cond.methodLink RX11 234 yX11_held, Cond.static yX11_held, Cond.code yX11_held cX11_held 2 (some .int), Cond.constantLong RX11 219 (1000000000), Cond.constantLong RX11 221 (-1000000000)]
def wsX11_goesThrough_r2 : List Cond := [Cond.code yX11_term cX11_term 4 (some .int), Cond.methodLink RX11 238 yX11_unit, Cond.instanceMethod yX11_unit, Cond.selects RX11 yX11_unit yX11_unit, Cond.code yX11_unit cX11_unit 5 (some .int), Cond.fieldLink RX11 128 "ShipOfficeModel" "letters" "[I", Cond.methodLink RX11 241 yX11_isLetter, Cond.static yX11_isLetter, Cond.code yX11_isLetter cX11_isLetter 1 (some .boolean), Cond.methodLink RX11 247 yX11_breaks, Cond.instanceMethod yX11_breaks, Cond.selects RX11 yX11_breaks yX11_breaks, Cond.code yX11_breaks cX11_breaks 1 (some .int), Cond.methodLink RX11 253 yX11_takes, Cond.instanceMethod yX11_takes, Cond.selects RX11 yX11_takes yX11_takes, Cond.code yX11_takes cX11_takes 2 (some .boolean)]
def wsX11_goesThrough : List Cond := .code yX11_goesThrough cX11_goesThrough 3 (some .int) :: ((wsX11_goesThrough_r1 ++ wsX11_goesThrough_r2) ++ wsX110)
theorem il_X11_goesThrough_1 : ∀ w ∈ wsX11_goesThrough_r1, w ∈ wsX11_goesThrough := fun w h => (List.mem_cons_of_mem _ (List.mem_append_left _ (List.mem_append_left _ h)))
theorem il_X11_goesThrough_2 : ∀ w ∈ wsX11_goesThrough_r2, w ∈ wsX11_goesThrough := fun w h => (List.mem_cons_of_mem _ (List.mem_append_left _ (List.mem_append_right _ h)))
theorem il_X11_goesThrough_3 : ∀ w ∈ wsX110, w ∈ wsX11_goesThrough := fun w h => (List.mem_cons_of_mem _ (List.mem_append_right _ h))
theorem iw_X11_goesThrough_1 : Cond.fieldLink RX11 216 "ShipOfficeModel" "base" "I" ∈ wsX11_goesThrough := (mmI il_X11_goesThrough_1 0 rfl)
theorem iw_X11_goesThrough_2 : Cond.fieldLink RX11 213 "ShipOfficeModel" "size" "I" ∈ wsX11_goesThrough := (mmI il_X11_goesThrough_1 1 rfl)
theorem iw_X11_goesThrough_3 : Cond.fieldLink RX11 210 "ShipOfficeModel" "at" "I" ∈ wsX11_goesThrough := (mmI il_X11_goesThrough_1 2 rfl)
theorem iw_X11_goesThrough_4 : Cond.fieldLink RX11 244 "ShipOfficeModel" "deep" "I" ∈ wsX11_goesThrough := (mmI il_X11_goesThrough_1 3 rfl)
theorem iw_X11_goesThrough_5 : Cond.fieldLink RX11 223 "ShipOfficeModel" "isWell" "Z" ∈ wsX11_goesThrough := (mmI il_X11_goesThrough_1 4 rfl)
set_option maxRecDepth 100000 in
theorem ggX11_goesThrough_X11_sum : GoodIn wsX11_goesThrough wsX11_sum := goodIn_sub (mmC (mmI il_X11_goesThrough_1 9 rfl) (mmA (mmA (mmC (mmI il_X11_goesThrough_1 4 rfl) (mmC (mmI il_X11_goesThrough_1 2 rfl) (mmC (mmI il_X11_goesThrough_1 10 rfl) (mmC (mmI il_X11_goesThrough_1 11 rfl) (mmC (mmI il_X11_goesThrough_1 12 rfl) (mmC (mmI il_X11_goesThrough_1 8 rfl) (mmC (mmI il_X11_goesThrough_1 13 rfl) (mmC (mmI il_X11_goesThrough_1 14 rfl) (mmC (mmI il_X11_goesThrough_1 15 rfl) (mmC (mmI il_X11_goesThrough_1 16 rfl) (mmC (mmI il_X11_goesThrough_1 1 rfl) (mmC (mmI il_X11_goesThrough_1 0 rfl) (mmC (mmI il_X11_goesThrough_1 17 rfl) (mmC (mmI il_X11_goesThrough_1 18 rfl) (mmC (mmI il_X11_goesThrough_1 19 rfl) (mmC (mmI il_X11_goesThrough_1 20 rfl) (mmC (mmI il_X11_goesThrough_1 21 rfl) (mmC (mmI il_X11_goesThrough_1 22 rfl) (mmC (mmI il_X11_goesThrough_1 23 rfl) (mmC (mmI il_X11_goesThrough_2 0 rfl) (mmC (mmI il_X11_goesThrough_2 1 rfl) (mmC (mmI il_X11_goesThrough_2 2 rfl) (mmC (mmI il_X11_goesThrough_2 3 rfl) (mmC (mmI il_X11_goesThrough_2 4 rfl) mmN)))))))))))))))))))))))) (mmC (mmI il_X11_goesThrough_2 5 rfl) (mmC (mmI il_X11_goesThrough_1 3 rfl) (mmC (mmI il_X11_goesThrough_2 6 rfl) (mmC (mmI il_X11_goesThrough_2 7 rfl) (mmC (mmI il_X11_goesThrough_2 8 rfl) (mmC (mmI il_X11_goesThrough_2 9 rfl) (mmC (mmI il_X11_goesThrough_2 10 rfl) (mmC (mmI il_X11_goesThrough_2 11 rfl) (mmC (mmI il_X11_goesThrough_2 12 rfl) (mmC (mmI il_X11_goesThrough_1 5 rfl) (mmC (mmI il_X11_goesThrough_1 6 rfl) (mmC (mmI il_X11_goesThrough_1 7 rfl) (mmC (mmI il_X11_goesThrough_2 13 rfl) (mmC (mmI il_X11_goesThrough_2 14 rfl) (mmC (mmI il_X11_goesThrough_2 15 rfl) (mmC (mmI il_X11_goesThrough_2 16 rfl) mmN))))))))))))))))) il_X11_goesThrough_3)) gw_X11_sum
theorem gX11_goesThrough_X11_sum : GoodIn wsX11_goesThrough (wsV RX11 250 RX11 yX11_sum wsX11_sum) := goodIn_app (goodIn_sub (mmC (mmI il_X11_goesThrough_1 5 rfl) (mmC (mmI il_X11_goesThrough_1 6 rfl) (mmC (mmI il_X11_goesThrough_1 7 rfl) (mmC (mmI il_X11_goesThrough_1 8 rfl) mmN)))) (by decide +kernel)) ggX11_goesThrough_X11_sum
theorem dX11_goesThrough_0 : decode cX11_goesThrough 0 = .ok (.aload_n 0, 1) := by decide +kernel
theorem dX11_goesThrough_1 : decode cX11_goesThrough 1 = .ok (.iload_n 1, 1) := by decide +kernel
theorem dX11_goesThrough_2 : decode cX11_goesThrough 2 = .ok (.putfield 216, 3) := by decide +kernel
theorem dX11_goesThrough_5 : decode cX11_goesThrough 5 = .ok (.aload_n 0, 1) := by decide +kernel
theorem dX11_goesThrough_6 : decode cX11_goesThrough 6 = .ok (.iload_n 2, 1) := by decide +kernel
theorem dX11_goesThrough_7 : decode cX11_goesThrough 7 = .ok (.putfield 213, 3) := by decide +kernel
theorem dX11_goesThrough_10 : decode cX11_goesThrough 10 = .ok (.aload_n 0, 1) := by decide +kernel
theorem dX11_goesThrough_11 : decode cX11_goesThrough 11 = .ok (.iconst 0, 1) := by decide +kernel
theorem dX11_goesThrough_12 : decode cX11_goesThrough 12 = .ok (.putfield 210, 3) := by decide +kernel
theorem dX11_goesThrough_15 : decode cX11_goesThrough 15 = .ok (.aload_n 0, 1) := by decide +kernel
theorem dX11_goesThrough_16 : decode cX11_goesThrough 16 = .ok (.iconst 0, 1) := by decide +kernel
theorem dX11_goesThrough_17 : decode cX11_goesThrough 17 = .ok (.putfield 244, 3) := by decide +kernel
theorem dX11_goesThrough_20 : decode cX11_goesThrough 20 = .ok (.aload_n 0, 1) := by decide +kernel
theorem dX11_goesThrough_21 : decode cX11_goesThrough 21 = .ok (.iconst 1, 1) := by decide +kernel
theorem dX11_goesThrough_22 : decode cX11_goesThrough 22 = .ok (.putfield 223, 3) := by decide +kernel
theorem dX11_goesThrough_25 : decode cX11_goesThrough 25 = .ok (.aload_n 0, 1) := by decide +kernel
theorem dX11_goesThrough_26 : decode cX11_goesThrough 26 = .ok (.invokevirtual 250, 3) := by decide +kernel
theorem dX11_goesThrough_29 : decode cX11_goesThrough 29 = .ok (.ireturn, 1) := by decide +kernel
theorem in_wsX11_goesThrough_X11 : ∀ w ∈ wsX110, w ∈ wsX11_goesThrough := fun w h => List.mem_cons_of_mem _ (List.mem_append_right _ h)
/-- behind a reading: only the reader's own fields changed -/
def rdR (v : Nat → Int32) (n : Nat) (u : Nat → Int32) : Prop := ∃ k' : Nat, k' ≤ n ∧ u 47 = nI k' ∧ (u 51 = 0 ∨ u 51 = 1) ∧ ∀ i, i ≠ 47 → i ≠ 48 → i ≠ 51 → i ≠ 49 → i ≠ 50 → u i = v i
set_option maxHeartbeats 4000000 in
set_option maxRecDepth 100000 in
theorem c_X11_goesThrough (l : Launch) (dC : Nat → ClassId) (dI : Nat → Nat → Nat) (sz : Nat) (g0 : Nat) (pq : Nat → Nat) (cp : Nat → ClassId) (v : Nat → Int32) (fa : Nat → Nat → Int32) (x1 x2 : Int32) (n : Nat) (hn : n ≤ 60) (e2 : x2 = nI n) (hb0 : x1 < 0 ∨ ∃ j : Nat, j ≤ 1740 ∧ x1 = nI j) : Met l yX11_goesThrough wsX11_goesThrough ({ frames := 19, cells := 0, slots := 0, locals := 441 }) (va_Pc [.ref g0, .int x1, .int x2] (pcW (dC, dI) (mT cp) (mW g0 pq cp v fa) sz)) (va_Qi (fun (r : Int32) (u : (Nat → Int32) × (Nat → Nat → Int32)) => rdR v n u.1 ∧ u.2 = fa) (fun u t => va_P (dC, dI) vwCl (mW g0 pq cp u.1 u.2) t.heap ∧ va_K (dC, dI) vwCl (mT cp) t ∧ va_D (va_A (mW g0 pq cp v fa) sz) (mW g0 pq cp u.1 u.2)) (va_A (mW g0 pq cp v fa) sz)) 0 0 (va_A (mW g0 pq cp v fa) sz) := by
  refine Met.ofW (cc := cX11_goesThrough) (maxL := 3) (ret := (some .int)) (by decide) rfl ?_
  intro p e s m args below meth c s₁ B hml hv
  obtain ⟨rfl, hsz, hP, hK, hD0⟩ := hv
  have hx := B.exec
  have hb := B.bytes
  have hr := B.returns
  have hts := atoms_spec (ws := wsX11_goesThrough) B.pre
  have hown : s.vm.findClass RX11 = some m.cls := findClass_of_methodNamed B.named
  have hlocks := B.notSynchronized
  subst hsz
  have hD := hD0.self (sz := s.heap.size)
  generalize hAe : va_A (mW g0 pq cp v fa) s.heap.size = A at hD ⊢
  have hA : ∀ q : Nat, s.heap.size ≤ q → A q := fun q h => by rw [← hAe]; exact Or.inr h
  have hS : va_S A s.heap s.heap [] := va_S.rf
  have hP : va_P (dC, dI) vwCl (mW g0 pq cp v fa) s.heap := hP
  have hl := lv_entry ([.ref g0, .int x1, .int x2]) (n := 3) (Nat.le_of_ble_eq_true rfl)
  rw [lg_entry_eq]
  generalize (lg_sl ([.ref g0, .int x1, .int x2]) ++ List.replicate (3 - (lg_sl ([.ref g0, .int x1, .int x2])).length) Slot.unset).toArray = ls at hl ⊢
  have hl : lv_has ls 3 [(0, .ref g0), (1, .int x1), (2, .int x2)] := hl
  refine lv_aload_n hx hb dX11_goesThrough_0 rfl (lv_at hl 0 rfl) ?_
  refine lv_iload_n hx hb dX11_goesThrough_1 rfl (lv_at hl 1 rfl) ?_
  refine va_put (D := (dC, dI)) (ci := 11) (v := .int x1) (ty := .int) (C := RX11) (T := TX11) (N := 63) hx hb hts in_wsX11_goesThrough_X11 tyX11 tyX11_ok nmX11 hown hK hP hD hS 0 rfl rfl 49 (by decide) (hts (.fieldLink RX11 216 "ShipOfficeModel" "base" "I") iw_X11_goesThrough_1) (fun _ h9 => h9) rfl (by decide +kernel) rfl rfl (Nat.le_of_ble_eq_true rfl) dX11_goesThrough_2 (fun H locs hP hD hS => ?_)
  have hP : va_P (dC, dI) vwCl (mW g0 pq cp (upd v 49 x1) fa) H := hP
  have hD : va_D A (mW g0 pq cp (upd v 49 x1) fa) := hD
  obtain ⟨z_1, ez_1⟩ : ∃ zq, zq = (upd v 49 x1) := ⟨_, rfl⟩
  rw [← ez_1] at hP hD
  refine lv_aload_n hx hb dX11_goesThrough_5 rfl (lv_at hl 0 rfl) ?_
  refine lv_iload_n hx hb dX11_goesThrough_6 rfl (lv_at hl 2 rfl) ?_
  refine va_put (D := (dC, dI)) (ci := 11) (v := .int x2) (ty := .int) (C := RX11) (T := TX11) (N := 63) hx hb hts in_wsX11_goesThrough_X11 tyX11 tyX11_ok nmX11 hown hK hP hD hS 0 rfl rfl 50 (by decide) (hts (.fieldLink RX11 213 "ShipOfficeModel" "size" "I") iw_X11_goesThrough_2) (fun _ h9 => h9) rfl (by decide +kernel) rfl rfl (Nat.le_of_ble_eq_true rfl) dX11_goesThrough_7 (fun H locs hP hD hS => ?_)
  have hP : va_P (dC, dI) vwCl (mW g0 pq cp (upd z_1 50 x2) fa) H := hP
  have hD : va_D A (mW g0 pq cp (upd z_1 50 x2) fa) := hD
  obtain ⟨z_2, ez_2⟩ : ∃ zq, zq = (upd z_1 50 x2) := ⟨_, rfl⟩
  rw [← ez_2] at hP hD
  refine lv_aload_n hx hb dX11_goesThrough_10 rfl (lv_at hl 0 rfl) ?_
  refine lv_iconst (v := 0) hx hb dX11_goesThrough_11 (by decide) ?_
  refine va_put (D := (dC, dI)) (ci := 11) (v := .int 0) (ty := .int) (C := RX11) (T := TX11) (N := 63) hx hb hts in_wsX11_goesThrough_X11 tyX11 tyX11_ok nmX11 hown hK hP hD hS 0 rfl rfl 47 (by decide) (hts (.fieldLink RX11 210 "ShipOfficeModel" "at" "I") iw_X11_goesThrough_3) (fun _ h9 => h9) rfl (by decide +kernel) rfl rfl (Nat.le_of_ble_eq_true rfl) dX11_goesThrough_12 (fun H locs hP hD hS => ?_)
  have hP : va_P (dC, dI) vwCl (mW g0 pq cp (upd z_2 47 0) fa) H := hP
  have hD : va_D A (mW g0 pq cp (upd z_2 47 0) fa) := hD
  obtain ⟨z_3, ez_3⟩ : ∃ zq, zq = (upd z_2 47 0) := ⟨_, rfl⟩
  rw [← ez_3] at hP hD
  refine lv_aload_n hx hb dX11_goesThrough_15 rfl (lv_at hl 0 rfl) ?_
  refine lv_iconst (v := 0) hx hb dX11_goesThrough_16 (by decide) ?_
  refine va_put (D := (dC, dI)) (ci := 11) (v := .int 0) (ty := .int) (C := RX11) (T := TX11) (N := 63) hx hb hts in_wsX11_goesThrough_X11 tyX11 tyX11_ok nmX11 hown hK hP hD hS 0 rfl rfl 48 (by decide) (hts (.fieldLink RX11 244 "ShipOfficeModel" "deep" "I") iw_X11_goesThrough_4) (fun _ h9 => h9) rfl (by decide +kernel) rfl rfl (Nat.le_of_ble_eq_true rfl) dX11_goesThrough_17 (fun H locs hP hD hS => ?_)
  have hP : va_P (dC, dI) vwCl (mW g0 pq cp (upd z_3 48 0) fa) H := hP
  have hD : va_D A (mW g0 pq cp (upd z_3 48 0) fa) := hD
  obtain ⟨z_4, ez_4⟩ : ∃ zq, zq = (upd z_3 48 0) := ⟨_, rfl⟩
  rw [← ez_4] at hP hD
  refine lv_aload_n hx hb dX11_goesThrough_20 rfl (lv_at hl 0 rfl) ?_
  refine lv_iconst (v := 1) hx hb dX11_goesThrough_21 (by decide) ?_
  refine va_put (D := (dC, dI)) (ci := 11) (v := .int 1) (ty := .boolean) (C := RX11) (T := TX11) (N := 63) hx hb hts in_wsX11_goesThrough_X11 tyX11 tyX11_ok nmX11 hown hK hP hD hS 0 rfl rfl 51 (by decide) (hts (.fieldLink RX11 223 "ShipOfficeModel" "isWell" "Z") iw_X11_goesThrough_5) (fun _ h9 => h9) rfl (by decide +kernel) rfl rfl (Nat.le_of_ble_eq_true rfl) dX11_goesThrough_22 (fun H locs hP hD hS => ?_)
  have hP : va_P (dC, dI) vwCl (mW g0 pq cp (upd z_4 51 1) fa) H := hP
  have hD : va_D A (mW g0 pq cp (upd z_4 51 1) fa) := hD
  obtain ⟨z_5, ez_5⟩ : ∃ zq, zq = (upd z_4 51 1) := ⟨_, rfl⟩
  rw [← ez_5] at hP hD
  refine lv_aload_n hx hb dX11_goesThrough_25 rfl (lv_at hl 0 rfl) ?_
  have hFc := va_free (wc := (mW g0 pq cp z_5 fa)) hD hS hA (List.range 48) rfl
  refine va_calli (va_runV (As := []) (rest := []) ⟨hx, hb, hml, hown, hts⟩ (c_X11_sum_0 l dC dI H.size g0 pq cp z_5 fa 0 n (Nat.zero_le n) hn (by rw [ez_5, ez_4, ez_3, ez_2, ez_1]; rfl) (by rw [ez_5, ez_4, ez_3, ez_2, ez_1]; exact e2) (by rw [ez_5, ez_4, ez_3, ez_2, ez_1]; exact hb0) (by rw [ez_5, ez_4, ez_3, ez_2, ez_1]; rfl) (by rw [ez_5, ez_4, ez_3, ez_2, ez_1]; rfl)) (cwV 0 hts gX11_goesThrough_X11_sum rfl rfl rfl (by decide +kernel) ⟨(Nat.le_of_ble_eq_true rfl), (Nat.le_of_ble_eq_true rfl)⟩) (pr_V (r := (RX11, TX11, 63)) hP hK hD 0 11 rfl rfl) rfl rfl hl.1 rfl (lv_room (Nat.le_of_ble_eq_true rfl)) dX11_goesThrough_26 ⟨(Nat.le_of_ble_eq_true rfl), (Nat.le_of_ble_eq_true rfl)⟩) hS (fun q _ h => hFc q h) hFc (fun r_7 u t H locs ht hvm w_6 hB hz1 hk1 hS => ?_)
  obtain ⟨v_8, fa_9⟩ := u
  obtain ⟨hP1, hK1, hD1⟩ := hB
  rw [ht] at hP1
  have hP : va_P (dC, dI) vwCl (mW g0 pq cp v_8 fa_9) H := hP1
  have hD : va_D A (mW g0 pq cp v_8 fa_9) := hD1.weaken (fun _ _ _ h => hFc _ h)
  clear hP1 hK1 hD1 hk1 hz1 hvm ht hFc
  obtain ⟨⟨k2, -, hk2, ea2, wd2, sm2⟩, ef2⟩ := w_6
  dsimp only at ea2 wd2 sm2 ef2
  exact W.iret (v := r_7) hx hb hr (fun t ht hW => ⟨⟨r_7, (v_8, fa_9), rfl, ⟨⟨k2, hk2, ea2, wd2.elim Or.inl (fun h => Or.inr h.1), fun i h1 h2 h3 h4 h5 => (sm2 i h1 h2 h3).trans (by rw [ez_5, ez_4, ez_3, ez_2, ez_1]; unfold upd; rw [if_neg h3, if_neg h2, if_neg h1, if_neg h5, if_neg h4])⟩, ef2⟩, ⟨by rw [ht]; exact hP, va_K.moved hW.alike hK, hD⟩⟩, hS.F ht⟩) hS.2.2 dX11_goesThrough_29
