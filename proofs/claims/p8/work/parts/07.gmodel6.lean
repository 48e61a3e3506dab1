abbrev cX11_sign : ByteArray := prog_13_method_26_code
def yX11_sign : MethodName := ⟨RX11, "sign", "()I"⟩
abbrev cX11_held : ByteArray := prog_13_method_27_code
def yX11_held : MethodName := ⟨RX11, "held", "(J)I"⟩
abbrev cX11_takes : ByteArray := prog_13_method_28_code
def yX11_takes : MethodName := ⟨RX11, "takes", "(I)Z"⟩
abbrev cX11_isLetter : ByteArray := prog_13_method_29_code
def yX11_isLetter : MethodName := ⟨RX11, "isLetter", "(I)Z"⟩
abbrev cX11_breaks : ByteArray := prog_13_method_32_code
def yX11_breaks : MethodName := ⟨RX11, "breaks", "()I"⟩
def wsX11_sign : List Cond := .code yX11_sign cX11_sign 1 (some .int) :: ([.fieldLink RX11 210 "ShipOfficeModel" "at" "I", .fieldLink RX11 213 "ShipOfficeModel" "size" "I", .fieldLink RX11 216 "ShipOfficeModel" "base" "I", .fieldLink RX11 125 "ShipOfficeModel" "tape" "[I", .fieldLink RX11 67 "ShipOfficeModel" "text" "[I"] ++ wsX110)
theorem gw_X11_sign : wsX11_sign.all goodWord = true := by decide +kernel
theorem il_X11_sign_1 : ∀ w ∈ ([.fieldLink RX11 210 "ShipOfficeModel" "at" "I", .fieldLink RX11 213 "ShipOfficeModel" "size" "I", .fieldLink RX11 216 "ShipOfficeModel" "base" "I", .fieldLink RX11 125 "ShipOfficeModel" "tape" "[I", .fieldLink RX11 67 "ShipOfficeModel" "text" "[I"] : List Cond), w ∈ wsX11_sign := fun w h => (List.mem_cons_of_mem _ (List.mem_append_left _ h))
theorem iw_X11_sign_1 : Cond.fieldLink RX11 210 "ShipOfficeModel" "at" "I" ∈ wsX11_sign := (mmI il_X11_sign_1 0 rfl)
theorem iw_X11_sign_2 : Cond.fieldLink RX11 213 "ShipOfficeModel" "size" "I" ∈ wsX11_sign := (mmI il_X11_sign_1 1 rfl)
theorem iw_X11_sign_3 : Cond.fieldLink RX11 216 "ShipOfficeModel" "base" "I" ∈ wsX11_sign := (mmI il_X11_sign_1 2 rfl)
theorem iw_X11_sign_4 : Cond.fieldLink RX11 67 "ShipOfficeModel" "text" "[I" ∈ wsX11_sign := (mmI il_X11_sign_1 4 rfl)
theorem iw_X11_sign_5 : Cond.fieldLink RX11 125 "ShipOfficeModel" "tape" "[I" ∈ wsX11_sign := (mmI il_X11_sign_1 3 rfl)
def wsX11_held : List Cond := .code yX11_held cX11_held 2 (some .int) :: ([.constantLong RX11 219 (1000000000), .constantLong RX11 221 (-1000000000)])
def wsX11_takes : List Cond := .code yX11_takes cX11_takes 2 (some .boolean) :: ([.fieldLink RX11 223 "ShipOfficeModel" "isWell" "Z", .fieldLink RX11 210 "ShipOfficeModel" "at" "I", .methodLink RX11 227 yX11_sign, .instanceMethod yX11_sign, .selects RX11 yX11_sign yX11_sign, .initialized RX11, .code yX11_sign cX11_sign 1 (some .int), .fieldLink RX11 213 "ShipOfficeModel" "size" "I", .fieldLink RX11 216 "ShipOfficeModel" "base" "I", .fieldLink RX11 125 "ShipOfficeModel" "tape" "[I", .fieldLink RX11 67 "ShipOfficeModel" "text" "[I"] ++ wsX110)
theorem il_X11_takes_1 : ∀ w ∈ ([.fieldLink RX11 223 "ShipOfficeModel" "isWell" "Z", .fieldLink RX11 210 "ShipOfficeModel" "at" "I", .methodLink RX11 227 yX11_sign, .instanceMethod yX11_sign, .selects RX11 yX11_sign yX11_sign, .initialized RX11, .code yX11_sign cX11_sign 1 (some .int), .fieldLink RX11 213 "ShipOfficeModel" "size" "I", .fieldLink RX11 216 "ShipOfficeModel" "base" "I", .fieldLink RX11 125 "ShipOfficeModel" "tape" "[I", .fieldLink RX11 67 "ShipOfficeModel" "text" "[I"] : List Cond), w ∈ wsX11_takes := fun w h => (List.mem_cons_of_mem _ (List.mem_append_left _ h))
theorem il_X11_takes_2 : ∀ w ∈ wsX110, w ∈ wsX11_takes := fun w h => (List.mem_cons_of_mem _ (List.mem_append_right _ h))
theorem iw_X11_takes_1 : Cond.fieldLink RX11 223 "ShipOfficeModel" "isWell" "Z" ∈ wsX11_takes := (mmI il_X11_takes_1 0 rfl)
theorem iw_X11_takes_2 : Cond.fieldLink RX11 210 "ShipOfficeModel" "at" "I" ∈ wsX11_takes := (mmI il_X11_takes_1 1 rfl)
def wsX11_isLetter : List Cond := .code yX11_isLetter cX11_isLetter 1 (some .boolean) :: ([])
def wsX11_breaks : List Cond := .code yX11_breaks cX11_breaks 1 (some .int) :: ([.fieldLink RX11 223 "ShipOfficeModel" "isWell" "Z"] ++ wsX110)
theorem il_X11_breaks_1 : ∀ w ∈ ([.fieldLink RX11 223 "ShipOfficeModel" "isWell" "Z"] : List Cond), w ∈ wsX11_breaks := fun w h => (List.mem_cons_of_mem _ (List.mem_append_left _ h))
theorem iw_X11_breaks_1 : Cond.fieldLink RX11 223 "ShipOfficeModel" "isWell" "Z" ∈ wsX11_breaks := (mmI il_X11_breaks_1 0 rfl)
theorem dX11_sign_0 : decode cX11_sign 0 = .ok (.aload_n 0, 1) := by decide +kernel
theorem dX11_sign_1 : decode cX11_sign 1 = .ok (.getfield 210, 3) := by decide +kernel
theorem dX11_sign_4 : decode cX11_sign 4 = .ok (.aload_n 0, 1) := by decide +kernel
theorem dX11_sign_5 : decode cX11_sign 5 = .ok (.getfield 213, 3) := by decide +kernel
theorem dX11_sign_8 : decode cX11_sign 8 = .ok (.if_icmp .lt 7, 3) := by decide +kernel
theorem dX11_sign_11 : decode cX11_sign 11 = .ok (.iconst (-1), 1) := by decide +kernel
theorem dX11_sign_12 : decode cX11_sign 12 = .ok (.goto 36, 3) := by decide +kernel
theorem dX11_sign_15 : decode cX11_sign 15 = .ok (.aload_n 0, 1) := by decide +kernel
theorem dX11_sign_16 : decode cX11_sign 16 = .ok (.getfield 216, 3) := by decide +kernel
theorem dX11_sign_19 : decode cX11_sign 19 = .ok (.ifCond .ge 15, 3) := by decide +kernel
theorem dX11_sign_22 : decode cX11_sign 22 = .ok (.aload_n 0, 1) := by decide +kernel
theorem dX11_sign_23 : decode cX11_sign 23 = .ok (.getfield 125, 3) := by decide +kernel
theorem dX11_sign_26 : decode cX11_sign 26 = .ok (.aload_n 0, 1) := by decide +kernel
theorem dX11_sign_27 : decode cX11_sign 27 = .ok (.getfield 210, 3) := by decide +kernel
theorem dX11_sign_30 : decode cX11_sign 30 = .ok (.iaload, 1) := by decide +kernel
theorem dX11_sign_31 : decode cX11_sign 31 = .ok (.goto 17, 3) := by decide +kernel
theorem dX11_sign_34 : decode cX11_sign 34 = .ok (.aload_n 0, 1) := by decide +kernel
theorem dX11_sign_35 : decode cX11_sign 35 = .ok (.getfield 67, 3) := by decide +kernel
theorem dX11_sign_38 : decode cX11_sign 38 = .ok (.aload_n 0, 1) := by decide +kernel
theorem dX11_sign_39 : decode cX11_sign 39 = .ok (.getfield 216, 3) := by decide +kernel
theorem dX11_sign_42 : decode cX11_sign 42 = .ok (.aload_n 0, 1) := by decide +kernel
theorem dX11_sign_43 : decode cX11_sign 43 = .ok (.getfield 210, 3) := by decide +kernel
theorem dX11_sign_46 : decode cX11_sign 46 = .ok (.iadd, 1) := by decide +kernel
theorem dX11_sign_47 : decode cX11_sign 47 = .ok (.iaload, 1) := by decide +kernel
theorem dX11_sign_48 : decode cX11_sign 48 = .ok (.ireturn, 1) := by decide +kernel
theorem dX11_held_0 : decode cX11_held 0 = .ok (.lload_n 0, 1) := by decide +kernel
theorem dX11_held_1 : decode cX11_held 1 = .ok (.ldc2_w 219, 3) := by decide +kernel
theorem dX11_held_4 : decode cX11_held 4 = .ok (.lcmp, 1) := by decide +kernel
theorem dX11_held_5 : decode cX11_held 5 = .ok (.ifCond .le 9, 3) := by decide +kernel
theorem dX11_held_8 : decode cX11_held 8 = .ok (.ldc2_w 219, 3) := by decide +kernel
theorem dX11_held_11 : decode cX11_held 11 = .ok (.goto 18, 3) := by decide +kernel
theorem dX11_held_14 : decode cX11_held 14 = .ok (.lload_n 0, 1) := by decide +kernel
theorem dX11_held_15 : decode cX11_held 15 = .ok (.ldc2_w 221, 3) := by decide +kernel
theorem dX11_held_18 : decode cX11_held 18 = .ok (.lcmp, 1) := by decide +kernel
theorem dX11_held_19 : decode cX11_held 19 = .ok (.ifCond .ge 9, 3) := by decide +kernel
theorem dX11_held_22 : decode cX11_held 22 = .ok (.ldc2_w 221, 3) := by decide +kernel
theorem dX11_held_25 : decode cX11_held 25 = .ok (.goto 4, 3) := by decide +kernel
theorem dX11_held_28 : decode cX11_held 28 = .ok (.lload_n 0, 1) := by decide +kernel
theorem dX11_held_29 : decode cX11_held 29 = .ok (.l2i, 1) := by decide +kernel
theorem dX11_held_30 : decode cX11_held 30 = .ok (.ireturn, 1) := by decide +kernel
set_option maxRecDepth 100000 in
theorem ggX11_takes_X11_sign : GoodIn wsX11_takes wsX11_sign := goodIn_sub (mmC (mmI il_X11_takes_1 6 rfl) (mmA (mmC (mmI il_X11_takes_1 1 rfl) (mmC (mmI il_X11_takes_1 7 rfl) (mmC (mmI il_X11_takes_1 8 rfl) (mmC (mmI il_X11_takes_1 9 rfl) (mmC (mmI il_X11_takes_1 10 rfl) mmN))))) il_X11_takes_2)) gw_X11_sign
theorem gX11_takes_X11_sign : GoodIn wsX11_takes (wsV RX11 227 RX11 yX11_sign wsX11_sign) := goodIn_app (goodIn_sub (mmC (mmI il_X11_takes_1 2 rfl) (mmC (mmI il_X11_takes_1 3 rfl) (mmC (mmI il_X11_takes_1 4 rfl) (mmC (mmI il_X11_takes_1 5 rfl) mmN)))) (by decide +kernel)) ggX11_takes_X11_sign
theorem dX11_takes_0 : decode cX11_takes 0 = .ok (.aload_n 0, 1) := by decide +kernel
theorem dX11_takes_1 : decode cX11_takes 1 = .ok (.getfield 223, 3) := by decide +kernel
theorem dX11_takes_4 : decode cX11_takes 4 = .ok (.ifCond .eq 11, 3) := by decide +kernel
theorem dX11_takes_7 : decode cX11_takes 7 = .ok (.aload_n 0, 1) := by decide +kernel
theorem dX11_takes_8 : decode cX11_takes 8 = .ok (.invokevirtual 227, 3) := by decide +kernel
theorem dX11_takes_11 : decode cX11_takes 11 = .ok (.iload_n 1, 1) := by decide +kernel
theorem dX11_takes_12 : decode cX11_takes 12 = .ok (.if_icmp .eq 5, 3) := by decide +kernel
theorem dX11_takes_15 : decode cX11_takes 15 = .ok (.iconst 0, 1) := by decide +kernel
theorem dX11_takes_16 : decode cX11_takes 16 = .ok (.ireturn, 1) := by decide +kernel
theorem dX11_takes_17 : decode cX11_takes 17 = .ok (.aload_n 0, 1) := by decide +kernel
theorem dX11_takes_18 : decode cX11_takes 18 = .ok (.dup, 1) := by decide +kernel
theorem dX11_takes_19 : decode cX11_takes 19 = .ok (.getfield 210, 3) := by decide +kernel
theorem dX11_takes_22 : decode cX11_takes 22 = .ok (.iconst 1, 1) := by decide +kernel
theorem dX11_takes_23 : decode cX11_takes 23 = .ok (.iadd, 1) := by decide +kernel
theorem dX11_takes_24 : decode cX11_takes 24 = .ok (.putfield 210, 3) := by decide +kernel
theorem dX11_takes_27 : decode cX11_takes 27 = .ok (.iconst 1, 1) := by decide +kernel
theorem dX11_takes_28 : decode cX11_takes 28 = .ok (.ireturn, 1) := by decide +kernel
theorem dX11_isLetter_0 : decode cX11_isLetter 0 = .ok (.iload_n 0, 1) := by decide +kernel
theorem dX11_isLetter_1 : decode cX11_isLetter 1 = .ok (.bipush 119, 2) := by decide +kernel
theorem dX11_isLetter_3 : decode cX11_isLetter 3 = .ok (.if_icmp .eq 45, 3) := by decide +kernel
theorem dX11_isLetter_6 : decode cX11_isLetter 6 = .ok (.iload_n 0, 1) := by decide +kernel
theorem dX11_isLetter_7 : decode cX11_isLetter 7 = .ok (.bipush 114, 2) := by decide +kernel
theorem dX11_isLetter_9 : decode cX11_isLetter 9 = .ok (.if_icmp .eq 39, 3) := by decide +kernel
theorem dX11_isLetter_12 : decode cX11_isLetter 12 = .ok (.iload_n 0, 1) := by decide +kernel
theorem dX11_isLetter_13 : decode cX11_isLetter 13 = .ok (.bipush 97, 2) := by decide +kernel
theorem dX11_isLetter_15 : decode cX11_isLetter 15 = .ok (.if_icmp .eq 33, 3) := by decide +kernel
theorem dX11_isLetter_18 : decode cX11_isLetter 18 = .ok (.iload_n 0, 1) := by decide +kernel
theorem dX11_isLetter_19 : decode cX11_isLetter 19 = .ok (.bipush 100, 2) := by decide +kernel
theorem dX11_isLetter_21 : decode cX11_isLetter 21 = .ok (.if_icmp .eq 27, 3) := by decide +kernel
theorem dX11_isLetter_24 : decode cX11_isLetter 24 = .ok (.iload_n 0, 1) := by decide +kernel
theorem dX11_isLetter_25 : decode cX11_isLetter 25 = .ok (.bipush 110, 2) := by decide +kernel
theorem dX11_isLetter_27 : decode cX11_isLetter 27 = .ok (.if_icmp .eq 21, 3) := by decide +kernel
theorem dX11_isLetter_30 : decode cX11_isLetter 30 = .ok (.iload_n 0, 1) := by decide +kernel
theorem dX11_isLetter_31 : decode cX11_isLetter 31 = .ok (.bipush 115, 2) := by decide +kernel
theorem dX11_isLetter_33 : decode cX11_isLetter 33 = .ok (.if_icmp .eq 15, 3) := by decide +kernel
theorem dX11_isLetter_36 : decode cX11_isLetter 36 = .ok (.iload_n 0, 1) := by decide +kernel
theorem dX11_isLetter_37 : decode cX11_isLetter 37 = .ok (.bipush 108, 2) := by decide +kernel
theorem dX11_isLetter_39 : decode cX11_isLetter 39 = .ok (.if_icmp .eq 9, 3) := by decide +kernel
theorem dX11_isLetter_42 : decode cX11_isLetter 42 = .ok (.iload_n 0, 1) := by decide +kernel
theorem dX11_isLetter_43 : decode cX11_isLetter 43 = .ok (.bipush 120, 2) := by decide +kernel
theorem dX11_isLetter_45 : decode cX11_isLetter 45 = .ok (.if_icmp .ne 7, 3) := by decide +kernel
theorem dX11_isLetter_48 : decode cX11_isLetter 48 = .ok (.iconst 1, 1) := by decide +kernel
theorem dX11_isLetter_49 : decode cX11_isLetter 49 = .ok (.goto 4, 3) := by decide +kernel
theorem dX11_isLetter_52 : decode cX11_isLetter 52 = .ok (.iconst 0, 1) := by decide +kernel
theorem dX11_isLetter_53 : decode cX11_isLetter 53 = .ok (.ireturn, 1) := by decide +kernel
theorem dX11_breaks_0 : decode cX11_breaks 0 = .ok (.aload_n 0, 1) := by decide +kernel
theorem dX11_breaks_1 : decode cX11_breaks 1 = .ok (.iconst 0, 1) := by decide +kernel
theorem dX11_breaks_2 : decode cX11_breaks 2 = .ok (.putfield 223, 3) := by decide +kernel
theorem dX11_breaks_5 : decode cX11_breaks 5 = .ok (.iconst 0, 1) := by decide +kernel
theorem dX11_breaks_6 : decode cX11_breaks 6 = .ok (.ireturn, 1) := by decide +kernel
theorem in_wsX11_sign_X11 : ∀ w ∈ wsX110, w ∈ wsX11_sign := fun w h => List.mem_cons_of_mem _ (List.mem_append_right _ h)
theorem in_wsX11_breaks_X11 : ∀ w ∈ wsX110, w ∈ wsX11_breaks := fun w h => List.mem_cons_of_mem _ (List.mem_append_right _ h)
theorem in_wsX11_takes_X11 : ∀ w ∈ wsX110, w ∈ wsX11_takes := fun w h => List.mem_cons_of_mem _ (List.mem_append_right _ h)

theorem sg_lt {x y : Int32} {k n : Nat} (ea : x = nI k) (es : y = nI n) (hk : k ≤ n) (hn : n ≤ 60) (c : x < y) : k < n := by
  subst ea es
  exact (nI_ltI (by omega) (by omega)).mp c
theorem sg_in {x y : Int32} {k n : Nat} (ea : x = nI k) (es : y = nI n) (hk : k ≤ n) (hn : n ≤ 60) (c : x < y) : vp_in x 60 := by
  have h := sg_lt ea es hk hn c
  rw [ea]
  exact vp_in_nI (by omega) (by decide +kernel)
theorem sg_in2 {x y b : Int32} {k n : Nat} (ea : x = nI k) (es : y = nI n) (hk : k ≤ n) (hn : n ≤ 60) (c : x < y) (hb : b < 0 ∨ ∃ j : Nat, j ≤ 1740 ∧ b = nI j) (c2 : 0 ≤ b) : vp_in (b + x) 1800 := by
  have h := sg_lt ea es hk hn c
  rcases hb with hb | ⟨j, hj, rfl⟩
  · exact absurd hb (Int32.not_lt.mpr c2)
  · rw [ea, nI_add]
    exact vp_in_nI (by omega) (by decide +kernel)
set_option maxHeartbeats 4000000 in
set_option maxRecDepth 100000 in
theorem c_X11_breaks (l : Launch) (dC : Nat → ClassId) (dI : Nat → Nat → Nat) (sz : Nat) (g0 : Nat) (pq : Nat → Nat) (cp : Nat → ClassId) (v : Nat → Int32) (fa : Nat → Nat → Int32) : Met l yX11_breaks wsX11_breaks ({ frames := 0, cells := 0, slots := 0, locals := 0 }) (va_Pc [.ref g0] (pcW (dC, dI) (mT cp) (mW g0 pq cp v fa) sz)) (va_Qi (fun (r : Int32) (u : (Nat → Int32) × (Nat → Nat → Int32)) => r = 0 ∧ u.1 = upd v 51 0 ∧ u.2 = fa) (fun u t => va_P (dC, dI) vwCl (mW g0 pq cp u.1 u.2) t.heap ∧ va_K (dC, dI) vwCl (mT cp) t ∧ va_D (va_A (mW g0 pq cp v fa) sz) (mW g0 pq cp u.1 u.2)) (va_A (mW g0 pq cp v fa) sz)) 0 0 (va_A (mW g0 pq cp v fa) sz) := by
  refine Met.ofW (cc := cX11_breaks) (maxL := 1) (ret := (some .int)) (by decide +kernel) rfl ?_
  intro p e s m args below meth c s₁ B hml hv
  obtain ⟨rfl, hsz, hP, hK, hD0⟩ := hv
  have hx := B.exec
  have hb := B.bytes
  have hr := B.returns
  have hts := atoms_spec (ws := wsX11_breaks) B.pre
  have hown : s.vm.findClass RX11 = some m.cls := findClass_of_methodNamed B.named
  have hlocks := B.notSynchronized
  subst hsz
  have hD := hD0.self (sz := s.heap.size)
  generalize hAe : va_A (mW g0 pq cp v fa) s.heap.size = A at hD ⊢
  have hA : ∀ q : Nat, s.heap.size ≤ q → A q := fun q h => by rw [← hAe]; exact Or.inr h
  have hS : va_S A s.heap s.heap [] := va_S.rf
  have hP : va_P (dC, dI) vwCl (mW g0 pq cp v fa) s.heap := hP
  have hl := lv_entry ([.ref g0]) (n := 1) (Nat.le_of_ble_eq_true rfl)
  rw [lg_entry_eq]
  generalize (lg_sl ([.ref g0]) ++ List.replicate (1 - (lg_sl ([.ref g0])).length) Slot.unset).toArray = ls at hl ⊢
  have hl : lv_has ls 1 [(0, .ref g0)] := hl
  refine lv_aload_n hx hb dX11_breaks_0 rfl (lv_at hl 0 rfl) ?_
  refine lv_iconst (v := 0) hx hb dX11_breaks_1 (by decide +kernel) ?_
  refine va_put (D := (dC, dI)) (ci := 11) (v := .int 0) (ty := .boolean) (C := RX11) (T := TX11) (N := 63) hx hb hts in_wsX11_breaks_X11 tyX11 tyX11_ok nmX11 hown hK hP hD hS 0 rfl rfl 51 (by decide +kernel) (hts (.fieldLink RX11 223 "ShipOfficeModel" "isWell" "Z") iw_X11_breaks_1) (fun _ h9 => h9) rfl (by decide +kernel) rfl rfl (Nat.le_of_ble_eq_true rfl) dX11_breaks_2 (fun H locs hP hD hS => ?_)
  have hP : va_P (dC, dI) vwCl (mW g0 pq cp (upd v 51 0) fa) H := hP
  have hD : va_D A (mW g0 pq cp (upd v 51 0) fa) := hD
  refine lv_iconst (v := 0) hx hb dX11_breaks_5 (by decide +kernel) ?_
  exact W.iret (v := 0) hx hb hr (fun t ht hW => ⟨⟨0, ((upd v 51 0), fa), rfl, ⟨rfl, rfl, rfl⟩, ⟨by rw [ht]; exact hP, va_K.moved hW.alike hK, hD⟩⟩, hS.F ht⟩) hS.2.2 dX11_breaks_6