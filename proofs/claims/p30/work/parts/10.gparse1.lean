abbrev cX11_sum : ByteArray := prog_13_method_30_code
def yX11_sum : MethodName := ⟨RX11, "sum", "()I"⟩
abbrev cX11_term : ByteArray := prog_13_method_31_code
def yX11_term : MethodName := ⟨RX11, "term", "()I"⟩
abbrev cX11_unit : ByteArray := prog_13_method_33_code
def yX11_unit : MethodName := ⟨RX11, "unit", "()I"⟩
theorem gw_X11_held : wsX11_held.all goodWord = true := by decide +kernel
theorem gw_X11_isLetter : wsX11_isLetter.all goodWord = true := by decide +kernel
theorem gw_X11_breaks : wsX11_breaks.all goodWord = true := by decide +kernel
def wsX11_unit_r1 : List Cond := [Cond.fieldLink RX11 223 "ShipOfficeModel" "isWell" "Z", Cond.fieldLink RX11 210 "ShipOfficeModel" "at" "I", Cond.fieldLink RX11 128 "ShipOfficeModel" "letters" "[I", Cond.fieldLink RX11 244 "ShipOfficeModel" "deep" "I", Cond.methodLink RX11 227 yX11_sign, Cond.instanceMethod yX11_sign, Cond.selects RX11 yX11_sign yX11_sign, Cond.initialized RX11, Cond.code yX11_sign cX11_sign 1 (some .int), Cond.fieldLink RX11 213 "ShipOfficeModel" "size" "I", Cond.fieldLink RX11 216 "ShipOfficeModel" "base" "I", Cond.fieldLink RX11 125 "ShipOfficeModel" "tape" "[I", Cond.fieldLink RX11 67 "ShipOfficeModel" "text" "[I", Cond.methodLink RX11 241 yX11_isLetter, Cond.static yX11_isLetter, Cond.code yX11_isLetter cX11_isLetter 1 (some .boolean), Cond.methodLink RX11 234 yX11_held, Cond.static yX11_held, Cond.code yX11_held cX11_held 2 (some .int), Cond.constantLong RX11 219 (1000000000), Cond.constantLong RX11 221 (-1000000000), Cond.methodLink RX11 247 yX11_breaks, Cond.instanceMethod yX11_breaks, Cond.selects RX11 yX11_breaks yX11_breaks]
def wsX11_unit_r2 : List Cond := [Cond.code yX11_breaks cX11_breaks 1 (some .int), Cond.methodLink RX11 250 yX11_sum, Cond.instanceMethod yX11_sum, Cond.selects RX11 yX11_sum yX11_sum, Cond.methodLink RX11 253 yX11_takes, Cond.instanceMethod yX11_takes, Cond.selects RX11 yX11_takes yX11_takes, Cond.code yX11_takes cX11_takes 2 (some .boolean), Cond.code yX11_sum cX11_sum 4 (some .int), Cond.methodLink RX11 231 yX11_term, Cond.instanceMethod yX11_term, Cond.selects RX11 yX11_term yX11_term, Cond.code yX11_term cX11_term 4 (some .int), Cond.methodLink RX11 238 yX11_unit, Cond.instanceMethod yX11_unit, Cond.selects RX11 yX11_unit yX11_unit]
def wsX11_unit : List Cond := .code yX11_unit cX11_unit 5 (some .int) :: ((wsX11_unit_r1 ++ wsX11_unit_r2) ++ wsX110)
theorem il_X11_unit_1 : ∀ w ∈ wsX11_unit_r1, w ∈ wsX11_unit := fun w h => (List.mem_cons_of_mem _ (List.mem_append_left _ (List.mem_append_left _ h)))
theorem il_X11_unit_2 : ∀ w ∈ wsX11_unit_r2, w ∈ wsX11_unit := fun w h => (List.mem_cons_of_mem _ (List.mem_append_left _ (List.mem_append_right _ h)))
theorem il_X11_unit_3 : ∀ w ∈ wsX110, w ∈ wsX11_unit := fun w h => (List.mem_cons_of_mem _ (List.mem_append_right _ h))
theorem iw_X11_unit_1 : Cond.fieldLink RX11 223 "ShipOfficeModel" "isWell" "Z" ∈ wsX11_unit := (mmI il_X11_unit_1 0 rfl)
theorem iw_X11_unit_2 : Cond.fieldLink RX11 210 "ShipOfficeModel" "at" "I" ∈ wsX11_unit := (mmI il_X11_unit_1 1 rfl)
theorem iw_X11_unit_3 : Cond.fieldLink RX11 244 "ShipOfficeModel" "deep" "I" ∈ wsX11_unit := (mmI il_X11_unit_1 3 rfl)
theorem iw_X11_unit_4 : Cond.fieldLink RX11 128 "ShipOfficeModel" "letters" "[I" ∈ wsX11_unit := (mmI il_X11_unit_1 2 rfl)
set_option maxRecDepth 100000 in
theorem ggX11_unit_X11_sign : GoodIn wsX11_unit wsX11_sign := goodIn_sub (mmC (mmI il_X11_unit_1 8 rfl) (mmA (mmC (mmI il_X11_unit_1 1 rfl) (mmC (mmI il_X11_unit_1 9 rfl) (mmC (mmI il_X11_unit_1 10 rfl) (mmC (mmI il_X11_unit_1 11 rfl) (mmC (mmI il_X11_unit_1 12 rfl) mmN))))) il_X11_unit_3)) gw_X11_sign
theorem gX11_unit_X11_sign : GoodIn wsX11_unit (wsV RX11 227 RX11 yX11_sign wsX11_sign) := goodIn_app (goodIn_sub (mmC (mmI il_X11_unit_1 4 rfl) (mmC (mmI il_X11_unit_1 5 rfl) (mmC (mmI il_X11_unit_1 6 rfl) (mmC (mmI il_X11_unit_1 7 rfl) mmN)))) (by decide +kernel)) ggX11_unit_X11_sign
set_option maxRecDepth 100000 in
theorem ggX11_unit_X11_isLetter : GoodIn wsX11_unit wsX11_isLetter := goodIn_sub (mmC (mmI il_X11_unit_1 15 rfl) mmN) gw_X11_isLetter
set_option maxRecDepth 20000 in
theorem gX11_unit_X11_isLetter : GoodIn wsX11_unit (va_wsS RX11 241 yX11_isLetter wsX11_isLetter) := goodIn_app (goodIn_of _ (by decide +kernel)) ggX11_unit_X11_isLetter
set_option maxRecDepth 100000 in
theorem ggX11_unit_X11_held : GoodIn wsX11_unit wsX11_held := goodIn_sub (mmC (mmI il_X11_unit_1 18 rfl) (mmC (mmI il_X11_unit_1 19 rfl) (mmC (mmI il_X11_unit_1 20 rfl) mmN))) gw_X11_held
set_option maxRecDepth 20000 in
theorem gX11_unit_X11_held : GoodIn wsX11_unit (va_wsS RX11 234 yX11_held wsX11_held) := goodIn_app (goodIn_of _ (by decide +kernel)) ggX11_unit_X11_held
set_option maxRecDepth 100000 in
theorem ggX11_unit_X11_breaks : GoodIn wsX11_unit wsX11_breaks := goodIn_sub (mmC (mmI il_X11_unit_2 0 rfl) (mmA (mmC (mmI il_X11_unit_1 0 rfl) mmN) il_X11_unit_3)) gw_X11_breaks
theorem gX11_unit_X11_breaks : GoodIn wsX11_unit (wsV RX11 247 RX11 yX11_breaks wsX11_breaks) := goodIn_app (goodIn_sub (mmC (mmI il_X11_unit_1 21 rfl) (mmC (mmI il_X11_unit_1 22 rfl) (mmC (mmI il_X11_unit_1 23 rfl) (mmC (mmI il_X11_unit_1 7 rfl) mmN)))) (by decide +kernel)) ggX11_unit_X11_breaks
theorem dX11_unit_0 : decode cX11_unit 0 = .ok (.aload_n 0, 1) := by decide +kernel
theorem dX11_unit_1 : decode cX11_unit 1 = .ok (.getfield 223, 3) := by decide +kernel
theorem dX11_unit_4 : decode cX11_unit 4 = .ok (.ifCond .ne 5, 3) := by decide +kernel
theorem dX11_unit_9 : decode cX11_unit 9 = .ok (.aload_n 0, 1) := by decide +kernel
theorem dX11_unit_10 : decode cX11_unit 10 = .ok (.invokevirtual 227, 3) := by decide +kernel
theorem dX11_unit_13 : decode cX11_unit 13 = .ok (.istore_n 1, 1) := by decide +kernel
theorem dX11_unit_14 : decode cX11_unit 14 = .ok (.iload_n 1, 1) := by decide +kernel
theorem dX11_unit_15 : decode cX11_unit 15 = .ok (.invokestatic 241, 3) := by decide +kernel
theorem dX11_unit_18 : decode cX11_unit 18 = .ok (.ifCond .eq 24, 3) := by decide +kernel
theorem dX11_unit_21 : decode cX11_unit 21 = .ok (.aload_n 0, 1) := by decide +kernel
theorem dX11_unit_22 : decode cX11_unit 22 = .ok (.dup, 1) := by decide +kernel
theorem dX11_unit_23 : decode cX11_unit 23 = .ok (.getfield 210, 3) := by decide +kernel
theorem dX11_unit_26 : decode cX11_unit 26 = .ok (.iconst 1, 1) := by decide +kernel
theorem dX11_unit_27 : decode cX11_unit 27 = .ok (.iadd, 1) := by decide +kernel
theorem dX11_unit_28 : decode cX11_unit 28 = .ok (.putfield 210, 3) := by decide +kernel
theorem dX11_unit_31 : decode cX11_unit 31 = .ok (.aload_n 0, 1) := by decide +kernel
theorem dX11_unit_32 : decode cX11_unit 32 = .ok (.getfield 128, 3) := by decide +kernel
theorem dX11_unit_35 : decode cX11_unit 35 = .ok (.iload_n 1, 1) := by decide +kernel
theorem dX11_unit_36 : decode cX11_unit 36 = .ok (.iaload, 1) := by decide +kernel
theorem dX11_unit_37 : decode cX11_unit 37 = .ok (.i2l, 1) := by decide +kernel
theorem dX11_unit_38 : decode cX11_unit 38 = .ok (.invokestatic 234, 3) := by decide +kernel
theorem dX11_unit_41 : decode cX11_unit 41 = .ok (.ireturn, 1) := by decide +kernel
theorem dX11_unit_42 : decode cX11_unit 42 = .ok (.iload_n 1, 1) := by decide +kernel
theorem dX11_unit_43 : decode cX11_unit 43 = .ok (.bipush 40, 2) := by decide +kernel
theorem dX11_unit_45 : decode cX11_unit 45 = .ok (.if_icmp .ne 165, 3) := by decide +kernel
theorem dX11_unit_48 : decode cX11_unit 48 = .ok (.aload_n 0, 1) := by decide +kernel
theorem dX11_unit_49 : decode cX11_unit 49 = .ok (.getfield 244, 3) := by decide +kernel
theorem dX11_unit_52 : decode cX11_unit 52 = .ok (.iconst 5, 1) := by decide +kernel
theorem dX11_unit_53 : decode cX11_unit 53 = .ok (.if_icmp .ne 8, 3) := by decide +kernel
theorem dX11_unit_56 : decode cX11_unit 56 = .ok (.aload_n 0, 1) := by decide +kernel
theorem dX11_unit_57 : decode cX11_unit 57 = .ok (.invokevirtual 247, 3) := by decide +kernel
theorem dX11_unit_60 : decode cX11_unit 60 = .ok (.ireturn, 1) := by decide +kernel
theorem dX11_unit_210 : decode cX11_unit 210 = .ok (.iconst 0, 1) := by decide +kernel
theorem dX11_unit_211 : decode cX11_unit 211 = .ok (.istore_n 2, 1) := by decide +kernel
theorem dX11_unit_212 : decode cX11_unit 212 = .ok (.iconst 0, 1) := by decide +kernel
theorem dX11_unit_213 : decode cX11_unit 213 = .ok (.istore_n 3, 1) := by decide +kernel
theorem dX11_unit_214 : decode cX11_unit 214 = .ok (.iload_n 3, 1) := by decide +kernel
theorem dX11_unit_215 : decode cX11_unit 215 = .ok (.iconst 5, 1) := by decide +kernel
theorem dX11_unit_216 : decode cX11_unit 216 = .ok (.if_icmp .ge 50, 3) := by decide +kernel
theorem dX11_unit_219 : decode cX11_unit 219 = .ok (.aload_n 0, 1) := by decide +kernel
theorem dX11_unit_220 : decode cX11_unit 220 = .ok (.invokevirtual 227, 3) := by decide +kernel
theorem dX11_unit_223 : decode cX11_unit 223 = .ok (.bipush 48, 2) := by decide +kernel
theorem dX11_unit_225 : decode cX11_unit 225 = .ok (.if_icmp .lt 41, 3) := by decide +kernel
theorem dX11_unit_228 : decode cX11_unit 228 = .ok (.aload_n 0, 1) := by decide +kernel
theorem dX11_unit_229 : decode cX11_unit 229 = .ok (.invokevirtual 227, 3) := by decide +kernel
theorem dX11_unit_232 : decode cX11_unit 232 = .ok (.bipush 57, 2) := by decide +kernel
theorem dX11_unit_234 : decode cX11_unit 234 = .ok (.if_icmp .gt 32, 3) := by decide +kernel
theorem dX11_unit_237 : decode cX11_unit 237 = .ok (.bipush 10, 2) := by decide +kernel
theorem dX11_unit_239 : decode cX11_unit 239 = .ok (.iload_n 2, 1) := by decide +kernel
theorem dX11_unit_240 : decode cX11_unit 240 = .ok (.imul, 1) := by decide +kernel
theorem dX11_unit_241 : decode cX11_unit 241 = .ok (.aload_n 0, 1) := by decide +kernel
theorem dX11_unit_242 : decode cX11_unit 242 = .ok (.invokevirtual 227, 3) := by decide +kernel
theorem dX11_unit_245 : decode cX11_unit 245 = .ok (.iadd, 1) := by decide +kernel
theorem dX11_unit_246 : decode cX11_unit 246 = .ok (.bipush 48, 2) := by decide +kernel
theorem dX11_unit_248 : decode cX11_unit 248 = .ok (.isub, 1) := by decide +kernel
theorem dX11_unit_249 : decode cX11_unit 249 = .ok (.istore_n 2, 1) := by decide +kernel
theorem dX11_unit_250 : decode cX11_unit 250 = .ok (.aload_n 0, 1) := by decide +kernel
theorem dX11_unit_251 : decode cX11_unit 251 = .ok (.dup, 1) := by decide +kernel
theorem dX11_unit_252 : decode cX11_unit 252 = .ok (.getfield 210, 3) := by decide +kernel
theorem dX11_unit_255 : decode cX11_unit 255 = .ok (.iconst 1, 1) := by decide +kernel
theorem dX11_unit_256 : decode cX11_unit 256 = .ok (.iadd, 1) := by decide +kernel
theorem dX11_unit_257 : decode cX11_unit 257 = .ok (.putfield 210, 3) := by decide +kernel
theorem dX11_unit_260 : decode cX11_unit 260 = .ok (.iinc 3 1, 3) := by decide +kernel
theorem dX11_unit_263 : decode cX11_unit 263 = .ok (.goto (-49), 3) := by decide +kernel
theorem dX11_unit_266 : decode cX11_unit 266 = .ok (.iload_n 3, 1) := by decide +kernel
theorem dX11_unit_267 : decode cX11_unit 267 = .ok (.ifCond .ne 10, 3) := by decide +kernel
theorem dX11_unit_270 : decode cX11_unit 270 = .ok (.aload_n 0, 1) := by decide +kernel
theorem dX11_unit_271 : decode cX11_unit 271 = .ok (.invokevirtual 247, 3) := by decide +kernel
theorem dX11_unit_274 : decode cX11_unit 274 = .ok (.goto 4, 3) := by decide +kernel
theorem dX11_unit_277 : decode cX11_unit 277 = .ok (.iload_n 2, 1) := by decide +kernel
theorem dX11_unit_278 : decode cX11_unit 278 = .ok (.ireturn, 1) := by decide +kernel
theorem in_wsX11_unit_X11 : ∀ w ∈ wsX110, w ∈ wsX11_unit := fun w h => List.mem_cons_of_mem _ (List.mem_append_right _ h)
/-- behind a reader at level d: at has gone on within the text, it is broken or back at its level; nothing else changed -/
def pz (v : Nat → Int32) (k n d : Nat) (u : Nat → Int32) : Prop := ∃ k' : Nat, k ≤ k' ∧ k' ≤ n ∧ u 47 = nI k' ∧ (u 51 = 0 ∨ (u 51 = 1 ∧ u 48 = nI d)) ∧ ∀ i, i ≠ 47 → i ≠ 48 → i ≠ 51 → u i = v i
theorem ns_in {r : Int32} (h : vp_in r 128) : ¬ r = -1 := by
  intro e
  subst e
  exact absurd h (by unfold vp_in; decide)
set_option maxHeartbeats 4000000 in
set_option maxRecDepth 100000 in
theorem c_X11_unit_5 (l : Launch) (dC : Nat → ClassId) (dI : Nat → Nat → Nat) (sz : Nat) (g0 : Nat) (pq : Nat → Nat) (cp : Nat → ClassId) (v : Nat → Int32) (fa : Nat → Nat → Int32) (k n : Nat) (hk : k ≤ n) (hn : n ≤ 60) (ea : v 47 = nI k) (es : v 50 = nI n) (hb0 : v 49 < 0 ∨ ∃ j : Nat, j ≤ 1740 ∧ v 49 = nI j) (hwe : v 51 = 1) (hde : v 48 = nI 5) : Met l yX11_unit wsX11_unit ({ frames := 1, cells := 0, slots := 0, locals := 21 }) (va_Pc [.ref g0] (pcW (dC, dI) (mT cp) (mW g0 pq cp v fa) sz)) (va_Qi (fun (r : Int32) (u : (Nat → Int32) × (Nat → Nat → Int32)) => pz v k n 5 u.1 ∧ u.2 = fa) (fun u t => va_P (dC, dI) vwCl (mW g0 pq cp u.1 u.2) t.heap ∧ va_K (dC, dI) vwCl (mT cp) t ∧ va_D (va_A (mW g0 pq cp v fa) sz) (mW g0 pq cp u.1 u.2)) (va_A (mW g0 pq cp v fa) sz)) 0 0 (va_A (mW g0 pq cp v fa) sz) := by
  refine Met.ofW (cc := cX11_unit) (maxL := 5) (ret := (some .int)) (by decide) rfl ?_
  intro p e s m args below meth c s₁ B hml hv
  obtain ⟨rfl, hsz, hP, hK, hD0⟩ := hv
  have hx := B.exec
  have hb := B.bytes
  have hr := B.returns
  have hts := atoms_spec (ws := wsX11_unit) B.pre
  have hown : s.vm.findClass RX11 = some m.cls := findClass_of_methodNamed B.named
  have hlocks := B.notSynchronized
  subst hsz
  have hD := hD0.self (sz := s.heap.size)
  generalize hAe : va_A (mW g0 pq cp v fa) s.heap.size = A at hD ⊢
  have hA : ∀ q : Nat, s.heap.size ≤ q → A q := fun q h => by rw [← hAe]; exact Or.inr h
  have hS : va_S A s.heap s.heap [] := va_S.rf
  have hP : va_P (dC, dI) vwCl (mW g0 pq cp v fa) s.heap := hP
  have hl := lv_entry ([.ref g0]) (n := 5) (Nat.le_of_ble_eq_true rfl)
  rw [lg_entry_eq]
  generalize (lg_sl ([.ref g0]) ++ List.replicate (5 - (lg_sl ([.ref g0])).length) Slot.unset).toArray = ls at hl ⊢
  have hl : lv_has ls 5 [(0, .ref g0)] := hl
  refine lv_aload_n hx hb dX11_unit_0 rfl (lv_at hl 0 rfl) ?_
  refine va_get (D := (dC, dI)) (ci := 11) (v := .int (v 51)) (C := RX11) (T := TX11) (N := 63) hx hb hts in_wsX11_unit_X11 hown hK hP 0 rfl rfl 51 (by decide) (hts (.fieldLink RX11 223 "ShipOfficeModel" "isWell" "Z") iw_X11_unit_1) (fun _ h9 => h9) rfl dX11_unit_1 ?_
  refine lv_topi (fun y ey => ?_)
  obtain rfl : y = 1 := ey.trans (hwe.trans (by decide))
  refine lv_if_ne (tgt := 9) hx hb dX11_unit_4 (by decide) (fun _ => ?_) (fun c_1 => absurd c_1 (by decide))
  refine lv_aload_n hx hb dX11_unit_9 rfl (lv_at hl 0 rfl) ?_
  have hFc : ∀ q, va_A [] s.heap.size q → A q := pu_free hS hA
  refine va_calli (va_runV (As := []) (rest := []) ⟨hx, hb, hml, hown, hts⟩ (c_X11_sign l dC dI s.heap.size g0 pq cp v fa k n hk hn ea es hb0) (cwV 0 hts gX11_unit_X11_sign rfl rfl rfl (by decide +kernel) ⟨(Nat.le_of_ble_eq_true rfl), (Nat.le_of_ble_eq_true rfl)⟩) (pr_V (r := (RX11, TX11, 63)) hP hK hD 0 11 rfl rfl) rfl rfl hl.1 rfl (lv_room (Nat.le_of_ble_eq_true rfl)) dX11_unit_10 ⟨(Nat.le_of_ble_eq_true rfl), (Nat.le_of_ble_eq_true rfl)⟩) hS (fun q _ h => hFc q h) hFc (fun r_3 u t H locs ht hvm w_2 hB hz1 hk1 hS => ?_)
  have hP := pu_keep hP hk1
  clear hk1 hz1 hvm hB ht hFc
  refine lv_istore_n (lv' := [(1, .int r_3), (0, .ref g0)]) hx hb dX11_unit_13 rfl hl (by decide) rfl (fun ls hl => ?_)
  refine lv_iload_n hx hb dX11_unit_14 rfl (lv_at hl 0 rfl) ?_
  have hFc : ∀ q, va_A [] H.size q → A q := pu_free hS hA
  have hPc := hP.sub (ws' := []) [] rfl
  have hDc := hD.sub (ws' := []) [] (by decide) rfl
  have hKc := hK.sub (tys' := []) [] rfl
  refine va_calli (va_runS (As := [.int r_3]) (rest := []) ⟨hx, hb, hml, hown, hts⟩ (c_X11_isLetter l dC dI H.size r_3) (va_cwS 1 hts gX11_unit_X11_isLetter rfl rfl rfl (by decide +kernel) ⟨(Nat.le_of_ble_eq_true rfl), (Nat.le_of_ble_eq_true rfl)⟩) (pr_S hPc hKc hDc) rfl rfl hl.1 rfl (lv_room (Nat.le_of_ble_eq_true rfl)) dX11_unit_15 ⟨(Nat.le_of_ble_eq_true rfl), (Nat.le_of_ble_eq_true rfl)⟩) hS (fun q _ h => hFc q h) hFc (fun r_5 u t H locs ht hvm w_4 hB hz1 hk1 hS => ?_)
  have hP := pu_keep hP hk1
  clear hk1 hz1 hvm hB ht hFc hPc hDc hKc
  rcases w_4 with rfl | ⟨rfl, hl_6⟩
  · refine lv_if_eq (tgt := 42) hx hb dX11_unit_18 (by decide) (fun _ => ?_) (fun c_7 => absurd c_7 (by decide))
    refine lv_iload_n hx hb dX11_unit_42 rfl (lv_at hl 0 rfl) ?_
    refine lv_bipush (v := 40) hx hb dX11_unit_43 (by decide) ?_
    refine lv_icmp_ne (tgt := 210) hx hb dX11_unit_45 (by decide) (fun c_8 => ?_) (fun c_8 => ?_)
    · refine lv_iconst (v := 0) hx hb dX11_unit_210 (by decide) ?_
      refine lv_istore_n (lv' := [(2, .int 0), (1, .int r_3), (0, .ref g0)]) hx hb dX11_unit_211 rfl hl (by decide) rfl (fun ls hl => ?_)
      refine lv_iconst (v := 0) hx hb dX11_unit_212 (by decide) ?_
      refine lv_istore_n (lv' := [(3, .int 0), (2, .int 0), (1, .int r_3), (0, .ref g0)]) hx hb dX11_unit_213 rfl hl (by decide) rfl (fun ls hl => ?_)
      refine lv_iload_n hx hb dX11_unit_214 rfl (lv_at hl 0 rfl) ?_
      refine lv_iconst (v := 5) hx hb dX11_unit_215 (by decide) ?_
      refine lv_icmp_ge (tgt := 266) hx hb dX11_unit_216 (by decide) (fun c_9 => absurd c_9 (by decide)) (fun _ => ?_)
      refine lv_aload_n hx hb dX11_unit_219 rfl (lv_at hl 3 rfl) ?_
      have hFc : ∀ q, va_A [] H.size q → A q := pu_free hS hA
      refine va_calli (va_runV (As := []) (rest := []) ⟨hx, hb, hml, hown, hts⟩ (c_X11_sign l dC dI H.size g0 pq cp v fa k n hk hn ea es hb0) (cwV 0 hts gX11_unit_X11_sign rfl rfl rfl (by decide +kernel) ⟨(Nat.le_of_ble_eq_true rfl), (Nat.le_of_ble_eq_true rfl)⟩) (pr_V (r := (RX11, TX11, 63)) hP hK hD 0 11 rfl rfl) rfl rfl hl.1 rfl (lv_room (Nat.le_of_ble_eq_true rfl)) dX11_unit_220 ⟨(Nat.le_of_ble_eq_true rfl), (Nat.le_of_ble_eq_true rfl)⟩) hS (fun q _ h => hFc q h) hFc (fun r_11 u t H locs ht hvm w_10 hB hz1 hk1 hS => ?_)
      have hP := pu_keep hP hk1
      clear hk1 hz1 hvm hB ht hFc
      refine lv_bipush (v := 48) hx hb dX11_unit_223 (by decide) ?_
      refine lv_icmp_lt (tgt := 266) hx hb dX11_unit_225 (by decide) (fun c_12 => ?_) (fun c_12 => ?_)
      · refine lv_iload_n hx hb dX11_unit_266 rfl (lv_at hl 0 rfl) ?_
        refine lv_if_ne (tgt := 277) hx hb dX11_unit_267 (by decide) (fun c_13 => absurd c_13 (by decide)) (fun _ => ?_)
        refine lv_aload_n hx hb dX11_unit_270 rfl (lv_at hl 3 rfl) ?_
        have hFc := va_free (wc := (mW g0 pq cp v fa)) hD hS hA (List.range 48) rfl
        refine va_calli (va_runV (As := []) (rest := []) ⟨hx, hb, hml, hown, hts⟩ (c_X11_breaks l dC dI H.size g0 pq cp v fa) (cwV 0 hts gX11_unit_X11_breaks rfl rfl rfl (by decide +kernel) ⟨(Nat.le_of_ble_eq_true rfl), (Nat.le_of_ble_eq_true rfl)⟩) (pr_V (r := (RX11, TX11, 63)) hP hK hD 0 11 rfl rfl) rfl rfl hl.1 rfl (lv_room (Nat.le_of_ble_eq_true rfl)) dX11_unit_271 ⟨(Nat.le_of_ble_eq_true rfl), (Nat.le_of_ble_eq_true rfl)⟩) hS (fun q _ h => hFc q h) hFc (fun r_15 u t H locs ht hvm w_14 hB hz1 hk1 hS => ?_)
        obtain ⟨v_16, fa_17⟩ := u
        obtain ⟨hP1, hK1, hD1⟩ := hB
        rw [ht] at hP1
        have hP : va_P (dC, dI) vwCl (mW g0 pq cp v_16 fa_17) H := hP1
        have hD : va_D A (mW g0 pq cp v_16 fa_17) := hD1.weaken (fun _ _ _ h => hFc _ h)
        clear hP1 hK1 hD1 hk1 hz1 hvm ht hFc
        obtain ⟨rfl, ev_18, ef_19⟩ := w_14
        dsimp only at ev_18 ef_19
        have ea_v_16 : v_16 47 = nI k := by rw [ev_18]; exact ea
        have es_v_16 : v_16 50 = nI n := by rw [ev_18]; exact es
        have hb_v_16 : v_16 49 < 0 ∨ ∃ j : Nat, j ≤ 1740 ∧ v_16 49 = nI j := by rw [ev_18]; exact hb0
        have we_v_16 : v_16 51 = 0 := by rw [ev_18]; rfl
        have sm_v_16 : ∀ i, i ≠ 47 → i ≠ 48 → i ≠ 51 → v_16 i = v i := by intro i h1 h2 h3; rw [ev_18]; exact (if_neg h3).trans ((fun i _ _ _ => rfl) i h1 h2 h3)
        refine lv_goto (tgt := 278) hx hb dX11_unit_274 (by decide) ?_
        exact W.iret (v := 0) hx hb hr (fun t ht hW => ⟨⟨0, (v_16, fa_17), rfl, ⟨⟨k, by omega, hk, ea_v_16, (Or.inl we_v_16), sm_v_16⟩, ef_19⟩, ⟨by rw [ht]; exact hP, va_K.moved hW.alike hK, hD⟩⟩, hS.F ht⟩) hS.2.2 dX11_unit_278
      · refine lv_aload_n hx hb dX11_unit_228 rfl (lv_at hl 3 rfl) ?_
        have hFc : ∀ q, va_A [] H.size q → A q := pu_free hS hA
        refine va_calli (va_runV (As := []) (rest := []) ⟨hx, hb, hml, hown, hts⟩ (c_X11_sign l dC dI H.size g0 pq cp v fa k n hk hn ea es hb0) (cwV 0 hts gX11_unit_X11_sign rfl rfl rfl (by decide +kernel) ⟨(Nat.le_of_ble_eq_true rfl), (Nat.le_of_ble_eq_true rfl)⟩) (pr_V (r := (RX11, TX11, 63)) hP hK hD 0 11 rfl rfl) rfl rfl hl.1 rfl (lv_room (Nat.le_of_ble_eq_true rfl)) dX11_unit_229 ⟨(Nat.le_of_ble_eq_true rfl), (Nat.le_of_ble_eq_true rfl)⟩) hS (fun q _ h => hFc q h) hFc (fun r_21 u t H locs ht hvm w_20 hB hz1 hk1 hS => ?_)
        have hP := pu_keep hP hk1
        clear hk1 hz1 hvm hB ht hFc
        refine lv_bipush (v := 57) hx hb dX11_unit_232 (by decide) ?_
        refine lv_icmp_gt (tgt := 266) hx hb dX11_unit_234 (by decide) (fun c_22 => ?_) (fun c_22 => ?_)
        · refine lv_iload_n hx hb dX11_unit_266 rfl (lv_at hl 0 rfl) ?_
          refine lv_if_ne (tgt := 277) hx hb dX11_unit_267 (by decide) (fun c_23 => absurd c_23 (by decide)) (fun _ => ?_)
          refine lv_aload_n hx hb dX11_unit_270 rfl (lv_at hl 3 rfl) ?_
          have hFc := va_free (wc := (mW g0 pq cp v fa)) hD hS hA (List.range 48) rfl
          refine va_calli (va_runV (As := []) (rest := []) ⟨hx, hb, hml, hown, hts⟩ (c_X11_breaks l dC dI H.size g0 pq cp v fa) (cwV 0 hts gX11_unit_X11_breaks rfl rfl rfl (by decide +kernel) ⟨(Nat.le_of_ble_eq_true rfl), (Nat.le_of_ble_eq_true rfl)⟩) (pr_V (r := (RX11, TX11, 63)) hP hK hD 0 11 rfl rfl) rfl rfl hl.1 rfl (lv_room (Nat.le_of_ble_eq_true rfl)) dX11_unit_271 ⟨(Nat.le_of_ble_eq_true rfl), (Nat.le_of_ble_eq_true rfl)⟩) hS (fun q _ h => hFc q h) hFc (fun r_25 u t H locs ht hvm w_24 hB hz1 hk1 hS => ?_)
          obtain ⟨v_26, fa_27⟩ := u
          obtain ⟨hP1, hK1, hD1⟩ := hB
          rw [ht] at hP1
          have hP : va_P (dC, dI) vwCl (mW g0 pq cp v_26 fa_27) H := hP1
          have hD : va_D A (mW g0 pq cp v_26 fa_27) := hD1.weaken (fun _ _ _ h => hFc _ h)
          clear hP1 hK1 hD1 hk1 hz1 hvm ht hFc
          obtain ⟨rfl, ev_28, ef_29⟩ := w_24
          dsimp only at ev_28 ef_29
          have ea_v_26 : v_26 47 = nI k := by rw [ev_28]; exact ea
          have es_v_26 : v_26 50 = nI n := by rw [ev_28]; exact es
          have hb_v_26 : v_26 49 < 0 ∨ ∃ j : Nat, j ≤ 1740 ∧ v_26 49 = nI j := by rw [ev_28]; exact hb0
          have we_v_26 : v_26 51 = 0 := by rw [ev_28]; rfl
          have sm_v_26 : ∀ i, i ≠ 47 → i ≠ 48 → i ≠ 51 → v_26 i = v i := by intro i h1 h2 h3; rw [ev_28]; exact (if_neg h3).trans ((fun i _ _ _ => rfl) i h1 h2 h3)
          refine lv_goto (tgt := 278) hx hb dX11_unit_274 (by decide) ?_
          exact W.iret (v := 0) hx hb hr (fun t ht hW => ⟨⟨0, (v_26, fa_27), rfl, ⟨⟨k, by omega, hk, ea_v_26, (Or.inl we_v_26), sm_v_26⟩, ef_29⟩, ⟨by rw [ht]; exact hP, va_K.moved hW.alike hK, hD⟩⟩, hS.F ht⟩) hS.2.2 dX11_unit_278
        · refine lv_bipush (v := 10) hx hb dX11_unit_237 (by decide) ?_
          refine lv_iload_n hx hb dX11_unit_239 rfl (lv_at hl 1 rfl) ?_
          refine lv_imul hx hb dX11_unit_240 ?_
          refine lv_topi (fun y ey => ?_)
          obtain rfl : y = 0 := ey.trans (by decide)
          refine lv_aload_n hx hb dX11_unit_241 rfl (lv_at hl 3 rfl) ?_
          have hFc : ∀ q, va_A [] H.size q → A q := pu_free hS hA
          refine va_calli (va_runV (As := []) (rest := [.int 0]) ⟨hx, hb, hml, hown, hts⟩ (c_X11_sign l dC dI H.size g0 pq cp v fa k n hk hn ea es hb0) (cwV 0 hts gX11_unit_X11_sign rfl rfl rfl (by decide +kernel) ⟨(Nat.le_of_ble_eq_true rfl), (Nat.le_of_ble_eq_true rfl)⟩) (pr_V (r := (RX11, TX11, 63)) hP hK hD 0 11 rfl rfl) rfl rfl hl.1 rfl (lv_room (Nat.le_of_ble_eq_true rfl)) dX11_unit_242 ⟨(Nat.le_of_ble_eq_true rfl), (Nat.le_of_ble_eq_true rfl)⟩) hS (fun q _ h => hFc q h) hFc (fun r_31 u t H locs ht hvm w_30 hB hz1 hk1 hS => ?_)
          have hP := pu_keep hP hk1
          clear hk1 hz1 hvm hB ht hFc
          refine lv_iadd hx hb dX11_unit_245 ?_
          refine lv_bipush (v := 48) hx hb dX11_unit_246 (by decide) ?_
          refine lv_isub hx hb dX11_unit_248 ?_
          refine lv_istore_n (lv' := [(2, .int ((0 + r_31) - 48)), (3, .int 0), (1, .int r_3), (0, .ref g0)]) hx hb dX11_unit_249 rfl hl (by decide) rfl (fun ls hl => ?_)
          refine lv_aload_n hx hb dX11_unit_250 rfl (lv_at hl 3 rfl) ?_
          refine lv_dup hx hb dX11_unit_251 rfl ?_
          refine va_get (D := (dC, dI)) (ci := 11) (v := .int (v 47)) (C := RX11) (T := TX11) (N := 63) hx hb hts in_wsX11_unit_X11 hown hK hP 0 rfl rfl 47 (by decide) (hts (.fieldLink RX11 210 "ShipOfficeModel" "at" "I") iw_X11_unit_2) (fun _ h9 => h9) rfl dX11_unit_252 ?_
          refine lv_iconst (v := 1) hx hb dX11_unit_255 (by decide) ?_
          refine lv_iadd hx hb dX11_unit_256 ?_
          refine lv_topi (fun y ey => ?_)
          obtain rfl : y = nI (k + 1) := ey.trans (by rw [ea]; exact nI_1 _)
          refine va_put (D := (dC, dI)) (ci := 11) (v := .int (nI (k + 1))) (ty := .int) (C := RX11) (T := TX11) (N := 63) hx hb hts in_wsX11_unit_X11 tyX11 tyX11_ok nmX11 hown hK hP hD hS 0 rfl rfl 47 (by decide) (hts (.fieldLink RX11 210 "ShipOfficeModel" "at" "I") iw_X11_unit_2) (fun _ h9 => h9) rfl (by decide +kernel) rfl rfl (Nat.le_of_ble_eq_true rfl) dX11_unit_257 (fun H locs hP hD hS => ?_)
          have hP : va_P (dC, dI) vwCl (mW g0 pq cp (upd v 47 (nI (k + 1))) fa) H := hP
          have hD : va_D A (mW g0 pq cp (upd v 47 (nI (k + 1))) fa) := hD
          obtain ⟨z_32, ez_32⟩ : ∃ zq, zq = (upd v 47 (nI (k + 1))) := ⟨_, rfl⟩
          rw [← ez_32] at hP hD
          have ea_z_32 : z_32 47 = nI (k + 1) := by rw [ez_32]; rfl
          have es_z_32 : z_32 50 = nI n := by rw [ez_32]; exact es
          have hb_z_32 : z_32 49 < 0 ∨ ∃ j : Nat, j ≤ 1740 ∧ z_32 49 = nI j := by rw [ez_32]; exact hb0
          have we_z_32 : z_32 51 = 1 := by rw [ez_32]; exact hwe
          have de_z_32 : z_32 48 = nI 5 := by rw [ez_32]; exact hde
          have sm_z_32 : ∀ i, i ≠ 47 → i ≠ 48 → i ≠ 51 → z_32 i = v i := by intro i h1 h2 h3; rw [ez_32]; exact (if_neg h1).trans ((fun i _ _ _ => rfl) i h1 h2 h3)
          have hkn_z_32 : (k + 1) ≤ n := (w_10.resolve_left (fun h => c_12 (by rw [h]; decide)))
          have hk0_z_32 : k ≤ (k + 1) := by omega
          refine lv_iinc (v := 1) (lv' := [(3, .int 1), (2, .int ((0 + r_31) - 48)), (1, .int r_3), (0, .ref g0)]) hx hb dX11_unit_260 hl (k := 1) rfl (by decide) (by decide) rfl (fun ls hl => ?_)
          refine lv_goto (tgt := 214) hx hb dX11_unit_263 (by decide) ?_
          refine lv_iload_n hx hb dX11_unit_214 rfl (lv_at hl 0 rfl) ?_
          refine lv_iconst (v := 5) hx hb dX11_unit_215 (by decide) ?_
          refine lv_icmp_ge (tgt := 266) hx hb dX11_unit_216 (by decide) (fun c_33 => absurd c_33 (by decide)) (fun _ => ?_)
          refine lv_aload_n hx hb dX11_unit_219 rfl (lv_at hl 3 rfl) ?_
          have hFc : ∀ q, va_A [] H.size q → A q := pu_free hS hA
          refine va_calli (va_runV (As := []) (rest := []) ⟨hx, hb, hml, hown, hts⟩ (c_X11_sign l dC dI H.size g0 pq cp z_32 fa (k + 1) n hkn_z_32 hn ea_z_32 es_z_32 hb_z_32) (cwV 0 hts gX11_unit_X11_sign rfl rfl rfl (by decide +kernel) ⟨(Nat.le_of_ble_eq_true rfl), (Nat.le_of_ble_eq_true rfl)⟩) (pr_V (r := (RX11, TX11, 63)) hP hK hD 0 11 rfl rfl) rfl rfl hl.1 rfl (lv_room (Nat.le_of_ble_eq_true rfl)) dX11_unit_220 ⟨(Nat.le_of_ble_eq_true rfl), (Nat.le_of_ble_eq_true rfl)⟩) hS (fun q _ h => hFc q h) hFc (fun r_35 u t H locs ht hvm w_34 hB hz1 hk1 hS => ?_)
          have hP := pu_keep hP hk1
          clear hk1 hz1 hvm hB ht hFc
          refine lv_bipush (v := 48) hx hb dX11_unit_223 (by decide) ?_
          refine lv_icmp_lt (tgt := 266) hx hb dX11_unit_225 (by decide) (fun c_36 => ?_) (fun c_36 => ?_)
          · refine lv_iload_n hx hb dX11_unit_266 rfl (lv_at hl 0 rfl) ?_
            refine lv_if_ne (tgt := 277) hx hb dX11_unit_267 (by decide) (fun _ => ?_) (fun c_37 => absurd c_37 (by decide))
            refine lv_iload_n hx hb dX11_unit_277 rfl (lv_at hl 1 rfl) ?_
            exact W.iret (v := ((0 + r_31) - 48)) hx hb hr (fun t ht hW => ⟨⟨((0 + r_31) - 48), (z_32, fa), rfl, ⟨⟨(k + 1), by omega, hkn_z_32, ea_z_32, (Or.inr ⟨we_z_32, de_z_32⟩), sm_z_32⟩, rfl⟩, ⟨by rw [ht]; exact hP, va_K.moved hW.alike hK, hD⟩⟩, hS.F ht⟩) hS.2.2 dX11_unit_278
          · refine lv_aload_n hx hb dX11_unit_228 rfl (lv_at hl 3 rfl) ?_
            have hFc : ∀ q, va_A [] H.size q → A q := pu_free hS hA
            refine va_calli (va_runV (As := []) (rest := []) ⟨hx, hb, hml, hown, hts⟩ (c_X11_sign l dC dI H.size g0 pq cp z_32 fa (k + 1) n hkn_z_32 hn ea_z_32 es_z_32 hb_z_32) (cwV 0 hts gX11_unit_X11_sign rfl rfl rfl (by decide +kernel) ⟨(Nat.le_of_ble_eq_true rfl), (Nat.le_of_ble_eq_true rfl)⟩) (pr_V (r := (RX11, TX11, 63)) hP hK hD 0 11 rfl rfl) rfl rfl hl.1 rfl (lv_room (Nat.le_of_ble_eq_true rfl)) dX11_unit_229 ⟨(Nat.le_of_ble_eq_true rfl), (Nat.le_of_ble_eq_true rfl)⟩) hS (fun q _ h => hFc q h) hFc (fun r_39 u t H locs ht hvm w_38 hB hz1 hk1 hS => ?_)
            have hP := pu_keep hP hk1
            clear hk1 hz1 hvm hB ht hFc
            refine lv_bipush (v := 57) hx hb dX11_unit_232 (by decide) ?_
            refine lv_icmp_gt (tgt := 266) hx hb dX11_unit_234 (by decide) (fun c_40 => ?_) (fun c_40 => ?_)
            · refine lv_iload_n hx hb dX11_unit_266 rfl (lv_at hl 0 rfl) ?_
              refine lv_if_ne (tgt := 277) hx hb dX11_unit_267 (by decide) (fun _ => ?_) (fun c_41 => absurd c_41 (by decide))
              refine lv_iload_n hx hb dX11_unit_277 rfl (lv_at hl 1 rfl) ?_
              exact W.iret (v := ((0 + r_31) - 48)) hx hb hr (fun t ht hW => ⟨⟨((0 + r_31) - 48), (z_32, fa), rfl, ⟨⟨(k + 1), by omega, hkn_z_32, ea_z_32, (Or.inr ⟨we_z_32, de_z_32⟩), sm_z_32⟩, rfl⟩, ⟨by rw [ht]; exact hP, va_K.moved hW.alike hK, hD⟩⟩, hS.F ht⟩) hS.2.2 dX11_unit_278
            · refine lv_bipush (v := 10) hx hb dX11_unit_237 (by decide) ?_
              refine lv_iload_n hx hb dX11_unit_239 rfl (lv_at hl 1 rfl) ?_
              refine lv_imul hx hb dX11_unit_240 ?_
              refine lv_aload_n hx hb dX11_unit_241 rfl (lv_at hl 3 rfl) ?_
              have hFc : ∀ q, va_A [] H.size q → A q := pu_free hS hA
              refine va_calli (va_runV (As := []) (rest := [.int (10 * ((0 + r_31) - 48))]) ⟨hx, hb, hml, hown, hts⟩ (c_X11_sign l dC dI H.size g0 pq cp z_32 fa (k + 1) n hkn_z_32 hn ea_z_32 es_z_32 hb_z_32) (cwV 0 hts gX11_unit_X11_sign rfl rfl rfl (by decide +kernel) ⟨(Nat.le_of_ble_eq_true rfl), (Nat.le_of_ble_eq_true rfl)⟩) (pr_V (r := (RX11, TX11, 63)) hP hK hD 0 11 rfl rfl) rfl rfl hl.1 rfl (lv_room (Nat.le_of_ble_eq_true rfl)) dX11_unit_242 ⟨(Nat.le_of_ble_eq_true rfl), (Nat.le_of_ble_eq_true rfl)⟩) hS (fun q _ h => hFc q h) hFc (fun r_43 u t H locs ht hvm w_42 hB hz1 hk1 hS => ?_)
              have hP := pu_keep hP hk1
              clear hk1 hz1 hvm hB ht hFc
              refine lv_iadd hx hb dX11_unit_245 ?_
              refine lv_bipush (v := 48) hx hb dX11_unit_246 (by decide) ?_
              refine lv_isub hx hb dX11_unit_248 ?_
              refine lv_istore_n (lv' := [(2, .int (((10 * ((0 + r_31) - 48)) + r_43) - 48)), (3, .int 1), (1, .int r_3), (0, .ref g0)]) hx hb dX11_unit_249 rfl hl (by decide) rfl (fun ls hl => ?_)
              refine lv_aload_n hx hb dX11_unit_250 rfl (lv_at hl 3 rfl) ?_
              refine lv_dup hx hb dX11_unit_251 rfl ?_
              refine va_get (D := (dC, dI)) (ci := 11) (v := .int (z_32 47)) (C := RX11) (T := TX11) (N := 63) hx hb hts in_wsX11_unit_X11 hown hK hP 0 rfl rfl 47 (by decide) (hts (.fieldLink RX11 210 "ShipOfficeModel" "at" "I") iw_X11_unit_2) (fun _ h9 => h9) rfl dX11_unit_252 ?_
              refine lv_iconst (v := 1) hx hb dX11_unit_255 (by decide) ?_
              refine lv_iadd hx hb dX11_unit_256 ?_
              refine lv_topi (fun y ey => ?_)
              obtain rfl : y = nI ((k + 1) + 1) := ey.trans (by rw [ea_z_32]; exact nI_1 _)
              refine va_put (D := (dC, dI)) (ci := 11) (v := .int (nI ((k + 1) + 1))) (ty := .int) (C := RX11) (T := TX11) (N := 63) hx hb hts in_wsX11_unit_X11 tyX11 tyX11_ok nmX11 hown hK hP hD hS 0 rfl rfl 47 (by decide) (hts (.fieldLink RX11 210 "ShipOfficeModel" "at" "I") iw_X11_unit_2) (fun _ h9 => h9) rfl (by decide +kernel) rfl rfl (Nat.le_of_ble_eq_true rfl) dX11_unit_257 (fun H locs hP hD hS => ?_)
              have hP : va_P (dC, dI) vwCl (mW g0 pq cp (upd z_32 47 (nI ((k + 1) + 1))) fa) H := hP
              have hD : va_D A (mW g0 pq cp (upd z_32 47 (nI ((k + 1) + 1))) fa) := hD
              obtain ⟨z_44, ez_44⟩ : ∃ zq, zq = (upd z_32 47 (nI ((k + 1) + 1))) := ⟨_, rfl⟩
              rw [← ez_44] at hP hD
              have ea_z_44 : z_44 47 = nI ((k + 1) + 1) := by rw [ez_44]; rfl
              have es_z_44 : z_44 50 = nI n := by rw [ez_44]; exact es_z_32
              have hb_z_44 : z_44 49 < 0 ∨ ∃ j : Nat, j ≤ 1740 ∧ z_44 49 = nI j := by rw [ez_44]; exact hb_z_32
              have we_z_44 : z_44 51 = 1 := by rw [ez_44]; exact we_z_32
              have de_z_44 : z_44 48 = nI 5 := by rw [ez_44]; exact de_z_32
              have sm_z_44 : ∀ i, i ≠ 47 → i ≠ 48 → i ≠ 51 → z_44 i = v i := by intro i h1 h2 h3; rw [ez_44]; exact (if_neg h1).trans (sm_z_32 i h1 h2 h3)
              have hkn_z_44 : ((k + 1) + 1) ≤ n := (w_34.resolve_left (fun h => c_36 (by rw [h]; decide)))
              have hk0_z_44 : k ≤ ((k + 1) + 1) := by omega
              refine lv_iinc (v := 2) (lv' := [(3, .int 2), (2, .int (((10 * ((0 + r_31) - 48)) + r_43) - 48)), (1, .int r_3), (0, .ref g0)]) hx hb dX11_unit_260 hl (k := 1) rfl (by decide) (by decide) rfl (fun ls hl => ?_)
              refine lv_goto (tgt := 214) hx hb dX11_unit_263 (by decide) ?_
              refine lv_iload_n hx hb dX11_unit_214 rfl (lv_at hl 0 rfl) ?_
              refine lv_iconst (v := 5) hx hb dX11_unit_215 (by decide) ?_
              refine lv_icmp_ge (tgt := 266) hx hb dX11_unit_216 (by decide) (fun c_45 => absurd c_45 (by decide)) (fun _ => ?_)
              refine lv_aload_n hx hb dX11_unit_219 rfl (lv_at hl 3 rfl) ?_
              have hFc : ∀ q, va_A [] H.size q → A q := pu_free hS hA
              refine va_calli (va_runV (As := []) (rest := []) ⟨hx, hb, hml, hown, hts⟩ (c_X11_sign l dC dI H.size g0 pq cp z_44 fa ((k + 1) + 1) n hkn_z_44 hn ea_z_44 es_z_44 hb_z_44) (cwV 0 hts gX11_unit_X11_sign rfl rfl rfl (by decide +kernel) ⟨(Nat.le_of_ble_eq_true rfl), (Nat.le_of_ble_eq_true rfl)⟩) (pr_V (r := (RX11, TX11, 63)) hP hK hD 0 11 rfl rfl) rfl rfl hl.1 rfl (lv_room (Nat.le_of_ble_eq_true rfl)) dX11_unit_220 ⟨(Nat.le_of_ble_eq_true rfl), (Nat.le_of_ble_eq_true rfl)⟩) hS (fun q _ h => hFc q h) hFc (fun r_47 u t H locs ht hvm w_46 hB hz1 hk1 hS => ?_)
              have hP := pu_keep hP hk1
              clear hk1 hz1 hvm hB ht hFc
              refine lv_bipush (v := 48) hx hb dX11_unit_223 (by decide) ?_
              refine lv_icmp_lt (tgt := 266) hx hb dX11_unit_225 (by decide) (fun c_48 => ?_) (fun c_48 => ?_)
              · refine lv_iload_n hx hb dX11_unit_266 rfl (lv_at hl 0 rfl) ?_
                refine lv_if_ne (tgt := 277) hx hb dX11_unit_267 (by decide) (fun _ => ?_) (fun c_49 => absurd c_49 (by decide))
                refine lv_iload_n hx hb dX11_unit_277 rfl (lv_at hl 1 rfl) ?_
                exact W.iret (v := (((10 * ((0 + r_31) - 48)) + r_43) - 48)) hx hb hr (fun t ht hW => ⟨⟨(((10 * ((0 + r_31) - 48)) + r_43) - 48), (z_44, fa), rfl, ⟨⟨((k + 1) + 1), by omega, hkn_z_44, ea_z_44, (Or.inr ⟨we_z_44, de_z_44⟩), sm_z_44⟩, rfl⟩, ⟨by rw [ht]; exact hP, va_K.moved hW.alike hK, hD⟩⟩, hS.F ht⟩) hS.2.2 dX11_unit_278
              · refine lv_aload_n hx hb dX11_unit_228 rfl (lv_at hl 3 rfl) ?_
                have hFc : ∀ q, va_A [] H.size q → A q := pu_free hS hA
                refine va_calli (va_runV (As := []) (rest := []) ⟨hx, hb, hml, hown, hts⟩ (c_X11_sign l dC dI H.size g0 pq cp z_44 fa ((k + 1) + 1) n hkn_z_44 hn ea_z_44 es_z_44 hb_z_44) (cwV 0 hts gX11_unit_X11_sign rfl rfl rfl (by decide +kernel) ⟨(Nat.le_of_ble_eq_true rfl), (Nat.le_of_ble_eq_true rfl)⟩) (pr_V (r := (RX11, TX11, 63)) hP hK hD 0 11 rfl rfl) rfl rfl hl.1 rfl (lv_room (Nat.le_of_ble_eq_true rfl)) dX11_unit_229 ⟨(Nat.le_of_ble_eq_true rfl), (Nat.le_of_ble_eq_true rfl)⟩) hS (fun q _ h => hFc q h) hFc (fun r_51 u t H locs ht hvm w_50 hB hz1 hk1 hS => ?_)
                have hP := pu_keep hP hk1
                clear hk1 hz1 hvm hB ht hFc
                refine lv_bipush (v := 57) hx hb dX11_unit_232 (by decide) ?_
                refine lv_icmp_gt (tgt := 266) hx hb dX11_unit_234 (by decide) (fun c_52 => ?_) (fun c_52 => ?_)
                · refine lv_iload_n hx hb dX11_unit_266 rfl (lv_at hl 0 rfl) ?_
                  refine lv_if_ne (tgt := 277) hx hb dX11_unit_267 (by decide) (fun _ => ?_) (fun c_53 => absurd c_53 (by decide))
                  refine lv_iload_n hx hb dX11_unit_277 rfl (lv_at hl 1 rfl) ?_
                  exact W.iret (v := (((10 * ((0 + r_31) - 48)) + r_43) - 48)) hx hb hr (fun t ht hW => ⟨⟨(((10 * ((0 + r_31) - 48)) + r_43) - 48), (z_44, fa), rfl, ⟨⟨((k + 1) + 1), by omega, hkn_z_44, ea_z_44, (Or.inr ⟨we_z_44, de_z_44⟩), sm_z_44⟩, rfl⟩, ⟨by rw [ht]; exact hP, va_K.moved hW.alike hK, hD⟩⟩, hS.F ht⟩) hS.2.2 dX11_unit_278
                · refine lv_bipush (v := 10) hx hb dX11_unit_237 (by decide) ?_
                  refine lv_iload_n hx hb dX11_unit_239 rfl (lv_at hl 1 rfl) ?_
                  refine lv_imul hx hb dX11_unit_240 ?_
                  refine lv_aload_n hx hb dX11_unit_241 rfl (lv_at hl 3 rfl) ?_
                  have hFc : ∀ q, va_A [] H.size q → A q := pu_free hS hA
                  refine va_calli (va_runV (As := []) (rest := [.int (10 * (((10 * ((0 + r_31) - 48)) + r_43) - 48))]) ⟨hx, hb, hml, hown, hts⟩ (c_X11_sign l dC dI H.size g0 pq cp z_44 fa ((k + 1) + 1) n hkn_z_44 hn ea_z_44 es_z_44 hb_z_44) (cwV 0 hts gX11_unit_X11_sign rfl rfl rfl (by decide +kernel) ⟨(Nat.le_of_ble_eq_true rfl), (Nat.le_of_ble_eq_true rfl)⟩) (pr_V (r := (RX11, TX11, 63)) hP hK hD 0 11 rfl rfl) rfl rfl hl.1 rfl (lv_room (Nat.le_of_ble_eq_true rfl)) dX11_unit_242 ⟨(Nat.le_of_ble_eq_true rfl), (Nat.le_of_ble_eq_true rfl)⟩) hS (fun q _ h => hFc q h) hFc (fun r_55 u t H locs ht hvm w_54 hB hz1 hk1 hS => ?_)
                  have hP := pu_keep hP hk1
                  clear hk1 hz1 hvm hB ht hFc
                  refine lv_iadd hx hb dX11_unit_245 ?_
                  refine lv_bipush (v := 48) hx hb dX11_unit_246 (by decide) ?_
                  refine lv_isub hx hb dX11_unit_248 ?_
                  refine lv_istore_n (lv' := [(2, .int (((10 * (((10 * ((0 + r_31) - 48)) + r_43) - 48)) + r_55) - 48)), (3, .int 2), (1, .int r_3), (0, .ref g0)]) hx hb dX11_unit_249 rfl hl (by decide) rfl (fun ls hl => ?_)
                  refine lv_aload_n hx hb dX11_unit_250 rfl (lv_at hl 3 rfl) ?_
                  refine lv_dup hx hb dX11_unit_251 rfl ?_
                  refine va_get (D := (dC, dI)) (ci := 11) (v := .int (z_44 47)) (C := RX11) (T := TX11) (N := 63) hx hb hts in_wsX11_unit_X11 hown hK hP 0 rfl rfl 47 (by decide) (hts (.fieldLink RX11 210 "ShipOfficeModel" "at" "I") iw_X11_unit_2) (fun _ h9 => h9) rfl dX11_unit_252 ?_
                  refine lv_iconst (v := 1) hx hb dX11_unit_255 (by decide) ?_
                  refine lv_iadd hx hb dX11_unit_256 ?_
                  refine lv_topi (fun y ey => ?_)
                  obtain rfl : y = nI (((k + 1) + 1) + 1) := ey.trans (by rw [ea_z_44]; exact nI_1 _)
                  refine va_put (D := (dC, dI)) (ci := 11) (v := .int (nI (((k + 1) + 1) + 1))) (ty := .int) (C := RX11) (T := TX11) (N := 63) hx hb hts in_wsX11_unit_X11 tyX11 tyX11_ok nmX11 hown hK hP hD hS 0 rfl rfl 47 (by decide) (hts (.fieldLink RX11 210 "ShipOfficeModel" "at" "I") iw_X11_unit_2) (fun _ h9 => h9) rfl (by decide +kernel) rfl rfl (Nat.le_of_ble_eq_true rfl) dX11_unit_257 (fun H locs hP hD hS => ?_)
                  have hP : va_P (dC, dI) vwCl (mW g0 pq cp (upd z_44 47 (nI (((k + 1) + 1) + 1))) fa) H := hP
                  have hD : va_D A (mW g0 pq cp (upd z_44 47 (nI (((k + 1) + 1) + 1))) fa) := hD
                  obtain ⟨z_56, ez_56⟩ : ∃ zq, zq = (upd z_44 47 (nI (((k + 1) + 1) + 1))) := ⟨_, rfl⟩
                  rw [← ez_56] at hP hD
                  have ea_z_56 : z_56 47 = nI (((k + 1) + 1) + 1) := by rw [ez_56]; rfl
                  have es_z_56 : z_56 50 = nI n := by rw [ez_56]; exact es_z_44
                  have hb_z_56 : z_56 49 < 0 ∨ ∃ j : Nat, j ≤ 1740 ∧ z_56 49 = nI j := by rw [ez_56]; exact hb_z_44
                  have we_z_56 : z_56 51 = 1 := by rw [ez_56]; exact we_z_44
                  have de_z_56 : z_56 48 = nI 5 := by rw [ez_56]; exact de_z_44
                  have sm_z_56 : ∀ i, i ≠ 47 → i ≠ 48 → i ≠ 51 → z_56 i = v i := by intro i h1 h2 h3; rw [ez_56]; exact (if_neg h1).trans (sm_z_44 i h1 h2 h3)
                  have hkn_z_56 : (((k + 1) + 1) + 1) ≤ n := (w_46.resolve_left (fun h => c_48 (by rw [h]; decide)))
                  have hk0_z_56 : k ≤ (((k + 1) + 1) + 1) := by omega
                  refine lv_iinc (v := 3) (lv' := [(3, .int 3), (2, .int (((10 * (((10 * ((0 + r_31) - 48)) + r_43) - 48)) + r_55) - 48)), (1, .int r_3), (0, .ref g0)]) hx hb dX11_unit_260 hl (k := 1) rfl (by decide) (by decide) rfl (fun ls hl => ?_)
                  refine lv_goto (tgt := 214) hx hb dX11_unit_263 (by decide) ?_
                  refine lv_iload_n hx hb dX11_unit_214 rfl (lv_at hl 0 rfl) ?_
                  refine lv_iconst (v := 5) hx hb dX11_unit_215 (by decide) ?_
                  refine lv_icmp_ge (tgt := 266) hx hb dX11_unit_216 (by decide) (fun c_57 => absurd c_57 (by decide)) (fun _ => ?_)
                  refine lv_aload_n hx hb dX11_unit_219 rfl (lv_at hl 3 rfl) ?_
                  have hFc : ∀ q, va_A [] H.size q → A q := pu_free hS hA
                  refine va_calli (va_runV (As := []) (rest := []) ⟨hx, hb, hml, hown, hts⟩ (c_X11_sign l dC dI H.size g0 pq cp z_56 fa (((k + 1) + 1) + 1) n hkn_z_56 hn ea_z_56 es_z_56 hb_z_56) (cwV 0 hts gX11_unit_X11_sign rfl rfl rfl (by decide +kernel) ⟨(Nat.le_of_ble_eq_true rfl), (Nat.le_of_ble_eq_true rfl)⟩) (pr_V (r := (RX11, TX11, 63)) hP hK hD 0 11 rfl rfl) rfl rfl hl.1 rfl (lv_room (Nat.le_of_ble_eq_true rfl)) dX11_unit_220 ⟨(Nat.le_of_ble_eq_true rfl), (Nat.le_of_ble_eq_true rfl)⟩) hS (fun q _ h => hFc q h) hFc (fun r_59 u t H locs ht hvm w_58 hB hz1 hk1 hS => ?_)
                  have hP := pu_keep hP hk1
                  clear hk1 hz1 hvm hB ht hFc
                  refine lv_bipush (v := 48) hx hb dX11_unit_223 (by decide) ?_
                  refine lv_icmp_lt (tgt := 266) hx hb dX11_unit_225 (by decide) (fun c_60 => ?_) (fun c_60 => ?_)
                  · refine lv_iload_n hx hb dX11_unit_266 rfl (lv_at hl 0 rfl) ?_
                    refine lv_if_ne (tgt := 277) hx hb dX11_unit_267 (by decide) (fun _ => ?_) (fun c_61 => absurd c_61 (by decide))
                    refine lv_iload_n hx hb dX11_unit_277 rfl (lv_at hl 1 rfl) ?_
                    exact W.iret (v := (((10 * (((10 * ((0 + r_31) - 48)) + r_43) - 48)) + r_55) - 48)) hx hb hr (fun t ht hW => ⟨⟨(((10 * (((10 * ((0 + r_31) - 48)) + r_43) - 48)) + r_55) - 48), (z_56, fa), rfl, ⟨⟨(((k + 1) + 1) + 1), by omega, hkn_z_56, ea_z_56, (Or.inr ⟨we_z_56, de_z_56⟩), sm_z_56⟩, rfl⟩, ⟨by rw [ht]; exact hP, va_K.moved hW.alike hK, hD⟩⟩, hS.F ht⟩) hS.2.2 dX11_unit_278
                  · refine lv_aload_n hx hb dX11_unit_228 rfl (lv_at hl 3 rfl) ?_
                    have hFc : ∀ q, va_A [] H.size q → A q := pu_free hS hA
                    refine va_calli (va_runV (As := []) (rest := []) ⟨hx, hb, hml, hown, hts⟩ (c_X11_sign l dC dI H.size g0 pq cp z_56 fa (((k + 1) + 1) + 1) n hkn_z_56 hn ea_z_56 es_z_56 hb_z_56) (cwV 0 hts gX11_unit_X11_sign rfl rfl rfl (by decide +kernel) ⟨(Nat.le_of_ble_eq_true rfl), (Nat.le_of_ble_eq_true rfl)⟩) (pr_V (r := (RX11, TX11, 63)) hP hK hD 0 11 rfl rfl) rfl rfl hl.1 rfl (lv_room (Nat.le_of_ble_eq_true rfl)) dX11_unit_229 ⟨(Nat.le_of_ble_eq_true rfl), (Nat.le_of_ble_eq_true rfl)⟩) hS (fun q _ h => hFc q h) hFc (fun r_63 u t H locs ht hvm w_62 hB hz1 hk1 hS => ?_)
                    have hP := pu_keep hP hk1
                    clear hk1 hz1 hvm hB ht hFc
                    refine lv_bipush (v := 57) hx hb dX11_unit_232 (by decide) ?_
                    refine lv_icmp_gt (tgt := 266) hx hb dX11_unit_234 (by decide) (fun c_64 => ?_) (fun c_64 => ?_)
                    · refine lv_iload_n hx hb dX11_unit_266 rfl (lv_at hl 0 rfl) ?_
                      refine lv_if_ne (tgt := 277) hx hb dX11_unit_267 (by decide) (fun _ => ?_) (fun c_65 => absurd c_65 (by decide))
                      refine lv_iload_n hx hb dX11_unit_277 rfl (lv_at hl 1 rfl) ?_
                      exact W.iret (v := (((10 * (((10 * ((0 + r_31) - 48)) + r_43) - 48)) + r_55) - 48)) hx hb hr (fun t ht hW => ⟨⟨(((10 * (((10 * ((0 + r_31) - 48)) + r_43) - 48)) + r_55) - 48), (z_56, fa), rfl, ⟨⟨(((k + 1) + 1) + 1), by omega, hkn_z_56, ea_z_56, (Or.inr ⟨we_z_56, de_z_56⟩), sm_z_56⟩, rfl⟩, ⟨by rw [ht]; exact hP, va_K.moved hW.alike hK, hD⟩⟩, hS.F ht⟩) hS.2.2 dX11_unit_278
                    · refine lv_bipush (v := 10) hx hb dX11_unit_237 (by decide) ?_
                      refine lv_iload_n hx hb dX11_unit_239 rfl (lv_at hl 1 rfl) ?_
                      refine lv_imul hx hb dX11_unit_240 ?_
                      refine lv_aload_n hx hb dX11_unit_241 rfl (lv_at hl 3 rfl) ?_
                      have hFc : ∀ q, va_A [] H.size q → A q := pu_free hS hA
                      refine va_calli (va_runV (As := []) (rest := [.int (10 * (((10 * (((10 * ((0 + r_31) - 48)) + r_43) - 48)) + r_55) - 48))]) ⟨hx, hb, hml, hown, hts⟩ (c_X11_sign l dC dI H.size g0 pq cp z_56 fa (((k + 1) + 1) + 1) n hkn_z_56 hn ea_z_56 es_z_56 hb_z_56) (cwV 0 hts gX11_unit_X11_sign rfl rfl rfl (by decide +kernel) ⟨(Nat.le_of_ble_eq_true rfl), (Nat.le_of_ble_eq_true rfl)⟩) (pr_V (r := (RX11, TX11, 63)) hP hK hD 0 11 rfl rfl) rfl rfl hl.1 rfl (lv_room (Nat.le_of_ble_eq_true rfl)) dX11_unit_242 ⟨(Nat.le_of_ble_eq_true rfl), (Nat.le_of_ble_eq_true rfl)⟩) hS (fun q _ h => hFc q h) hFc (fun r_67 u t H locs ht hvm w_66 hB hz1 hk1 hS => ?_)
                      have hP := pu_keep hP hk1
                      clear hk1 hz1 hvm hB ht hFc
                      refine lv_iadd hx hb dX11_unit_245 ?_
                      refine lv_bipush (v := 48) hx hb dX11_unit_246 (by decide) ?_
                      refine lv_isub hx hb dX11_unit_248 ?_
                      refine lv_istore_n (lv' := [(2, .int (((10 * (((10 * (((10 * ((0 + r_31) - 48)) + r_43) - 48)) + r_55) - 48)) + r_67) - 48)), (3, .int 3), (1, .int r_3), (0, .ref g0)]) hx hb dX11_unit_249 rfl hl (by decide) rfl (fun ls hl => ?_)
                      refine lv_aload_n hx hb dX11_unit_250 rfl (lv_at hl 3 rfl) ?_
                      refine lv_dup hx hb dX11_unit_251 rfl ?_
                      refine va_get (D := (dC, dI)) (ci := 11) (v := .int (z_56 47)) (C := RX11) (T := TX11) (N := 63) hx hb hts in_wsX11_unit_X11 hown hK hP 0 rfl rfl 47 (by decide) (hts (.fieldLink RX11 210 "ShipOfficeModel" "at" "I") iw_X11_unit_2) (fun _ h9 => h9) rfl dX11_unit_252 ?_
                      refine lv_iconst (v := 1) hx hb dX11_unit_255 (by decide) ?_
                      refine lv_iadd hx hb dX11_unit_256 ?_
                      refine lv_topi (fun y ey => ?_)
                      obtain rfl : y = nI ((((k + 1) + 1) + 1) + 1) := ey.trans (by rw [ea_z_56]; exact nI_1 _)
                      refine va_put (D := (dC, dI)) (ci := 11) (v := .int (nI ((((k + 1) + 1) + 1) + 1))) (ty := .int) (C := RX11) (T := TX11) (N := 63) hx hb hts in_wsX11_unit_X11 tyX11 tyX11_ok nmX11 hown hK hP hD hS 0 rfl rfl 47 (by decide) (hts (.fieldLink RX11 210 "ShipOfficeModel" "at" "I") iw_X11_unit_2) (fun _ h9 => h9) rfl (by decide +kernel) rfl rfl (Nat.le_of_ble_eq_true rfl) dX11_unit_257 (fun H locs hP hD hS => ?_)
                      have hP : va_P (dC, dI) vwCl (mW g0 pq cp (upd z_56 47 (nI ((((k + 1) + 1) + 1) + 1))) fa) H := hP
                      have hD : va_D A (mW g0 pq cp (upd z_56 47 (nI ((((k + 1) + 1) + 1) + 1))) fa) := hD
                      obtain ⟨z_68, ez_68⟩ : ∃ zq, zq = (upd z_56 47 (nI ((((k + 1) + 1) + 1) + 1))) := ⟨_, rfl⟩
                      rw [← ez_68] at hP hD
                      have ea_z_68 : z_68 47 = nI ((((k + 1) + 1) + 1) + 1) := by rw [ez_68]; rfl
                      have es_z_68 : z_68 50 = nI n := by rw [ez_68]; exact es_z_56
                      have hb_z_68 : z_68 49 < 0 ∨ ∃ j : Nat, j ≤ 1740 ∧ z_68 49 = nI j := by rw [ez_68]; exact hb_z_56
                      have we_z_68 : z_68 51 = 1 := by rw [ez_68]; exact we_z_56
                      have de_z_68 : z_68 48 = nI 5 := by rw [ez_68]; exact de_z_56
                      have sm_z_68 : ∀ i, i ≠ 47 → i ≠ 48 → i ≠ 51 → z_68 i = v i := by intro i h1 h2 h3; rw [ez_68]; exact (if_neg h1).trans (sm_z_56 i h1 h2 h3)
                      have hkn_z_68 : ((((k + 1) + 1) + 1) + 1) ≤ n := (w_58.resolve_left (fun h => c_60 (by rw [h]; decide)))
                      have hk0_z_68 : k ≤ ((((k + 1) + 1) + 1) + 1) := by omega
                      refine lv_iinc (v := 4) (lv' := [(3, .int 4), (2, .int (((10 * (((10 * (((10 * ((0 + r_31) - 48)) + r_43) - 48)) + r_55) - 48)) + r_67) - 48)), (1, .int r_3), (0, .ref g0)]) hx hb dX11_unit_260 hl (k := 1) rfl (by decide) (by decide) rfl (fun ls hl => ?_)
                      refine lv_goto (tgt := 214) hx hb dX11_unit_263 (by decide) ?_
                      refine lv_iload_n hx hb dX11_unit_214 rfl (lv_at hl 0 rfl) ?_
                      refine lv_iconst (v := 5) hx hb dX11_unit_215 (by decide) ?_
                      refine lv_icmp_ge (tgt := 266) hx hb dX11_unit_216 (by decide) (fun c_69 => absurd c_69 (by decide)) (fun _ => ?_)
                      refine lv_aload_n hx hb dX11_unit_219 rfl (lv_at hl 3 rfl) ?_
                      have hFc : ∀ q, va_A [] H.size q → A q := pu_free hS hA
                      refine va_calli (va_runV (As := []) (rest := []) ⟨hx, hb, hml, hown, hts⟩ (c_X11_sign l dC dI H.size g0 pq cp z_68 fa ((((k + 1) + 1) + 1) + 1) n hkn_z_68 hn ea_z_68 es_z_68 hb_z_68) (cwV 0 hts gX11_unit_X11_sign rfl rfl rfl (by decide +kernel) ⟨(Nat.le_of_ble_eq_true rfl), (Nat.le_of_ble_eq_true rfl)⟩) (pr_V (r := (RX11, TX11, 63)) hP hK hD 0 11 rfl rfl) rfl rfl hl.1 rfl (lv_room (Nat.le_of_ble_eq_true rfl)) dX11_unit_220 ⟨(Nat.le_of_ble_eq_true rfl), (Nat.le_of_ble_eq_true rfl)⟩) hS (fun q _ h => hFc q h) hFc (fun r_71 u t H locs ht hvm w_70 hB hz1 hk1 hS => ?_)
                      have hP := pu_keep hP hk1
                      clear hk1 hz1 hvm hB ht hFc
                      refine lv_bipush (v := 48) hx hb dX11_unit_223 (by decide) ?_
                      refine lv_icmp_lt (tgt := 266) hx hb dX11_unit_225 (by decide) (fun c_72 => ?_) (fun c_72 => ?_)
                      · refine lv_iload_n hx hb dX11_unit_266 rfl (lv_at hl 0 rfl) ?_
                        refine lv_if_ne (tgt := 277) hx hb dX11_unit_267 (by decide) (fun _ => ?_) (fun c_73 => absurd c_73 (by decide))
                        refine lv_iload_n hx hb dX11_unit_277 rfl (lv_at hl 1 rfl) ?_
                        exact W.iret (v := (((10 * (((10 * (((10 * ((0 + r_31) - 48)) + r_43) - 48)) + r_55) - 48)) + r_67) - 48)) hx hb hr (fun t ht hW => ⟨⟨(((10 * (((10 * (((10 * ((0 + r_31) - 48)) + r_43) - 48)) + r_55) - 48)) + r_67) - 48), (z_68, fa), rfl, ⟨⟨((((k + 1) + 1) + 1) + 1), by omega, hkn_z_68, ea_z_68, (Or.inr ⟨we_z_68, de_z_68⟩), sm_z_68⟩, rfl⟩, ⟨by rw [ht]; exact hP, va_K.moved hW.alike hK, hD⟩⟩, hS.F ht⟩) hS.2.2 dX11_unit_278
                      · refine lv_aload_n hx hb dX11_unit_228 rfl (lv_at hl 3 rfl) ?_
                        have hFc : ∀ q, va_A [] H.size q → A q := pu_free hS hA
                        refine va_calli (va_runV (As := []) (rest := []) ⟨hx, hb, hml, hown, hts⟩ (c_X11_sign l dC dI H.size g0 pq cp z_68 fa ((((k + 1) + 1) + 1) + 1) n hkn_z_68 hn ea_z_68 es_z_68 hb_z_68) (cwV 0 hts gX11_unit_X11_sign rfl rfl rfl (by decide +kernel) ⟨(Nat.le_of_ble_eq_true rfl), (Nat.le_of_ble_eq_true rfl)⟩) (pr_V (r := (RX11, TX11, 63)) hP hK hD 0 11 rfl rfl) rfl rfl hl.1 rfl (lv_room (Nat.le_of_ble_eq_true rfl)) dX11_unit_229 ⟨(Nat.le_of_ble_eq_true rfl), (Nat.le_of_ble_eq_true rfl)⟩) hS (fun q _ h => hFc q h) hFc (fun r_75 u t H locs ht hvm w_74 hB hz1 hk1 hS => ?_)
                        have hP := pu_keep hP hk1
                        clear hk1 hz1 hvm hB ht hFc
                        refine lv_bipush (v := 57) hx hb dX11_unit_232 (by decide) ?_
                        refine lv_icmp_gt (tgt := 266) hx hb dX11_unit_234 (by decide) (fun c_76 => ?_) (fun c_76 => ?_)
                        · refine lv_iload_n hx hb dX11_unit_266 rfl (lv_at hl 0 rfl) ?_
                          refine lv_if_ne (tgt := 277) hx hb dX11_unit_267 (by decide) (fun _ => ?_) (fun c_77 => absurd c_77 (by decide))
                          refine lv_iload_n hx hb dX11_unit_277 rfl (lv_at hl 1 rfl) ?_
                          exact W.iret (v := (((10 * (((10 * (((10 * ((0 + r_31) - 48)) + r_43) - 48)) + r_55) - 48)) + r_67) - 48)) hx hb hr (fun t ht hW => ⟨⟨(((10 * (((10 * (((10 * ((0 + r_31) - 48)) + r_43) - 48)) + r_55) - 48)) + r_67) - 48), (z_68, fa), rfl, ⟨⟨((((k + 1) + 1) + 1) + 1), by omega, hkn_z_68, ea_z_68, (Or.inr ⟨we_z_68, de_z_68⟩), sm_z_68⟩, rfl⟩, ⟨by rw [ht]; exact hP, va_K.moved hW.alike hK, hD⟩⟩, hS.F ht⟩) hS.2.2 dX11_unit_278
                        · refine lv_bipush (v := 10) hx hb dX11_unit_237 (by decide) ?_
                          refine lv_iload_n hx hb dX11_unit_239 rfl (lv_at hl 1 rfl) ?_
                          refine lv_imul hx hb dX11_unit_240 ?_
                          refine lv_aload_n hx hb dX11_unit_241 rfl (lv_at hl 3 rfl) ?_
                          have hFc : ∀ q, va_A [] H.size q → A q := pu_free hS hA
                          refine va_calli (va_runV (As := []) (rest := [.int (10 * (((10 * (((10 * (((10 * ((0 + r_31) - 48)) + r_43) - 48)) + r_55) - 48)) + r_67) - 48))]) ⟨hx, hb, hml, hown, hts⟩ (c_X11_sign l dC dI H.size g0 pq cp z_68 fa ((((k + 1) + 1) + 1) + 1) n hkn_z_68 hn ea_z_68 es_z_68 hb_z_68) (cwV 0 hts gX11_unit_X11_sign rfl rfl rfl (by decide +kernel) ⟨(Nat.le_of_ble_eq_true rfl), (Nat.le_of_ble_eq_true rfl)⟩) (pr_V (r := (RX11, TX11, 63)) hP hK hD 0 11 rfl rfl) rfl rfl hl.1 rfl (lv_room (Nat.le_of_ble_eq_true rfl)) dX11_unit_242 ⟨(Nat.le_of_ble_eq_true rfl), (Nat.le_of_ble_eq_true rfl)⟩) hS (fun q _ h => hFc q h) hFc (fun r_79 u t H locs ht hvm w_78 hB hz1 hk1 hS => ?_)
                          have hP := pu_keep hP hk1
                          clear hk1 hz1 hvm hB ht hFc
                          refine lv_iadd hx hb dX11_unit_245 ?_
                          refine lv_bipush (v := 48) hx hb dX11_unit_246 (by decide) ?_
                          refine lv_isub hx hb dX11_unit_248 ?_
                          refine lv_istore_n (lv' := [(2, .int (((10 * (((10 * (((10 * (((10 * ((0 + r_31) - 48)) + r_43) - 48)) + r_55) - 48)) + r_67) - 48)) + r_79) - 48)), (3, .int 4), (1, .int r_3), (0, .ref g0)]) hx hb dX11_unit_249 rfl hl (by decide) rfl (fun ls hl => ?_)
                          refine lv_aload_n hx hb dX11_unit_250 rfl (lv_at hl 3 rfl) ?_
                          refine lv_dup hx hb dX11_unit_251 rfl ?_
                          refine va_get (D := (dC, dI)) (ci := 11) (v := .int (z_68 47)) (C := RX11) (T := TX11) (N := 63) hx hb hts in_wsX11_unit_X11 hown hK hP 0 rfl rfl 47 (by decide) (hts (.fieldLink RX11 210 "ShipOfficeModel" "at" "I") iw_X11_unit_2) (fun _ h9 => h9) rfl dX11_unit_252 ?_
                          refine lv_iconst (v := 1) hx hb dX11_unit_255 (by decide) ?_
                          refine lv_iadd hx hb dX11_unit_256 ?_
                          refine lv_topi (fun y ey => ?_)
                          obtain rfl : y = nI (((((k + 1) + 1) + 1) + 1) + 1) := ey.trans (by rw [ea_z_68]; exact nI_1 _)
                          refine va_put (D := (dC, dI)) (ci := 11) (v := .int (nI (((((k + 1) + 1) + 1) + 1) + 1))) (ty := .int) (C := RX11) (T := TX11) (N := 63) hx hb hts in_wsX11_unit_X11 tyX11 tyX11_ok nmX11 hown hK hP hD hS 0 rfl rfl 47 (by decide) (hts (.fieldLink RX11 210 "ShipOfficeModel" "at" "I") iw_X11_unit_2) (fun _ h9 => h9) rfl (by decide +kernel) rfl rfl (Nat.le_of_ble_eq_true rfl) dX11_unit_257 (fun H locs hP hD hS => ?_)
                          have hP : va_P (dC, dI) vwCl (mW g0 pq cp (upd z_68 47 (nI (((((k + 1) + 1) + 1) + 1) + 1))) fa) H := hP
                          have hD : va_D A (mW g0 pq cp (upd z_68 47 (nI (((((k + 1) + 1) + 1) + 1) + 1))) fa) := hD
                          obtain ⟨z_80, ez_80⟩ : ∃ zq, zq = (upd z_68 47 (nI (((((k + 1) + 1) + 1) + 1) + 1))) := ⟨_, rfl⟩
                          rw [← ez_80] at hP hD
                          have ea_z_80 : z_80 47 = nI (((((k + 1) + 1) + 1) + 1) + 1) := by rw [ez_80]; rfl
                          have es_z_80 : z_80 50 = nI n := by rw [ez_80]; exact es_z_68
                          have hb_z_80 : z_80 49 < 0 ∨ ∃ j : Nat, j ≤ 1740 ∧ z_80 49 = nI j := by rw [ez_80]; exact hb_z_68
                          have we_z_80 : z_80 51 = 1 := by rw [ez_80]; exact we_z_68
                          have de_z_80 : z_80 48 = nI 5 := by rw [ez_80]; exact de_z_68
                          have sm_z_80 : ∀ i, i ≠ 47 → i ≠ 48 → i ≠ 51 → z_80 i = v i := by intro i h1 h2 h3; rw [ez_80]; exact (if_neg h1).trans (sm_z_68 i h1 h2 h3)
                          have hkn_z_80 : (((((k + 1) + 1) + 1) + 1) + 1) ≤ n := (w_70.resolve_left (fun h => c_72 (by rw [h]; decide)))
                          have hk0_z_80 : k ≤ (((((k + 1) + 1) + 1) + 1) + 1) := by omega
                          refine lv_iinc (v := 5) (lv' := [(3, .int 5), (2, .int (((10 * (((10 * (((10 * (((10 * ((0 + r_31) - 48)) + r_43) - 48)) + r_55) - 48)) + r_67) - 48)) + r_79) - 48)), (1, .int r_3), (0, .ref g0)]) hx hb dX11_unit_260 hl (k := 1) rfl (by decide) (by decide) rfl (fun ls hl => ?_)
                          refine lv_goto (tgt := 214) hx hb dX11_unit_263 (by decide) ?_
                          refine lv_iload_n hx hb dX11_unit_214 rfl (lv_at hl 0 rfl) ?_
                          refine lv_iconst (v := 5) hx hb dX11_unit_215 (by decide) ?_
                          refine lv_icmp_ge (tgt := 266) hx hb dX11_unit_216 (by decide) (fun _ => ?_) (fun c_81 => absurd c_81 (by decide))
                          refine lv_iload_n hx hb dX11_unit_266 rfl (lv_at hl 0 rfl) ?_
                          refine lv_if_ne (tgt := 277) hx hb dX11_unit_267 (by decide) (fun _ => ?_) (fun c_82 => absurd c_82 (by decide))
                          refine lv_iload_n hx hb dX11_unit_277 rfl (lv_at hl 1 rfl) ?_
                          exact W.iret (v := (((10 * (((10 * (((10 * (((10 * ((0 + r_31) - 48)) + r_43) - 48)) + r_55) - 48)) + r_67) - 48)) + r_79) - 48)) hx hb hr (fun t ht hW => ⟨⟨(((10 * (((10 * (((10 * (((10 * ((0 + r_31) - 48)) + r_43) - 48)) + r_55) - 48)) + r_67) - 48)) + r_79) - 48), (z_80, fa), rfl, ⟨⟨(((((k + 1) + 1) + 1) + 1) + 1), by omega, hkn_z_80, ea_z_80, (Or.inr ⟨we_z_80, de_z_80⟩), sm_z_80⟩, rfl⟩, ⟨by rw [ht]; exact hP, va_K.moved hW.alike hK, hD⟩⟩, hS.F ht⟩) hS.2.2 dX11_unit_278
    · refine lv_aload_n hx hb dX11_unit_48 rfl (lv_at hl 1 rfl) ?_
      refine va_get (D := (dC, dI)) (ci := 11) (v := .int (v 48)) (C := RX11) (T := TX11) (N := 63) hx hb hts in_wsX11_unit_X11 hown hK hP 0 rfl rfl 48 (by decide) (hts (.fieldLink RX11 244 "ShipOfficeModel" "deep" "I") iw_X11_unit_3) (fun _ h9 => h9) rfl dX11_unit_49 ?_
      refine lv_topi (fun y ey => ?_)
      obtain rfl : y = 5 := ey.trans (hde.trans (by decide))
      refine lv_iconst (v := 5) hx hb dX11_unit_52 (by decide) ?_
      refine lv_icmp_ne (tgt := 61) hx hb dX11_unit_53 (by decide) (fun c_83 => absurd c_83 (by decide)) (fun _ => ?_)
      refine lv_aload_n hx hb dX11_unit_56 rfl (lv_at hl 1 rfl) ?_
      have hFc := va_free (wc := (mW g0 pq cp v fa)) hD hS hA (List.range 48) rfl
      refine va_calli (va_runV (As := []) (rest := []) ⟨hx, hb, hml, hown, hts⟩ (c_X11_breaks l dC dI H.size g0 pq cp v fa) (cwV 0 hts gX11_unit_X11_breaks rfl rfl rfl (by decide +kernel) ⟨(Nat.le_of_ble_eq_true rfl), (Nat.le_of_ble_eq_true rfl)⟩) (pr_V (r := (RX11, TX11, 63)) hP hK hD 0 11 rfl rfl) rfl rfl hl.1 rfl (lv_room (Nat.le_of_ble_eq_true rfl)) dX11_unit_57 ⟨(Nat.le_of_ble_eq_true rfl), (Nat.le_of_ble_eq_true rfl)⟩) hS (fun q _ h => hFc q h) hFc (fun r_85 u t H locs ht hvm w_84 hB hz1 hk1 hS => ?_)
      obtain ⟨v_86, fa_87⟩ := u
      obtain ⟨hP1, hK1, hD1⟩ := hB
      rw [ht] at hP1
      have hP : va_P (dC, dI) vwCl (mW g0 pq cp v_86 fa_87) H := hP1
      have hD : va_D A (mW g0 pq cp v_86 fa_87) := hD1.weaken (fun _ _ _ h => hFc _ h)
      clear hP1 hK1 hD1 hk1 hz1 hvm ht hFc
      obtain ⟨rfl, ev_88, ef_89⟩ := w_84
      dsimp only at ev_88 ef_89
      have ea_v_86 : v_86 47 = nI k := by rw [ev_88]; exact ea
      have es_v_86 : v_86 50 = nI n := by rw [ev_88]; exact es
      have hb_v_86 : v_86 49 < 0 ∨ ∃ j : Nat, j ≤ 1740 ∧ v_86 49 = nI j := by rw [ev_88]; exact hb0
      have we_v_86 : v_86 51 = 0 := by rw [ev_88]; rfl
      have sm_v_86 : ∀ i, i ≠ 47 → i ≠ 48 → i ≠ 51 → v_86 i = v i := by intro i h1 h2 h3; rw [ev_88]; exact (if_neg h3).trans ((fun i _ _ _ => rfl) i h1 h2 h3)
      exact W.iret (v := 0) hx hb hr (fun t ht hW => ⟨⟨0, (v_86, fa_87), rfl, ⟨⟨k, by omega, hk, ea_v_86, (Or.inl we_v_86), sm_v_86⟩, ef_89⟩, ⟨by rw [ht]; exact hP, va_K.moved hW.alike hK, hD⟩⟩, hS.F ht⟩) hS.2.2 dX11_unit_60
  · refine lv_if_eq (tgt := 42) hx hb dX11_unit_18 (by decide) (fun c_90 => absurd c_90 (by decide)) (fun _ => ?_)
    refine lv_aload_n hx hb dX11_unit_21 rfl (lv_at hl 1 rfl) ?_
    refine lv_dup hx hb dX11_unit_22 rfl ?_
    refine va_get (D := (dC, dI)) (ci := 11) (v := .int (v 47)) (C := RX11) (T := TX11) (N := 63) hx hb hts in_wsX11_unit_X11 hown hK hP 0 rfl rfl 47 (by decide) (hts (.fieldLink RX11 210 "ShipOfficeModel" "at" "I") iw_X11_unit_2) (fun _ h9 => h9) rfl dX11_unit_23 ?_
    refine lv_iconst (v := 1) hx hb dX11_unit_26 (by decide) ?_
    refine lv_iadd hx hb dX11_unit_27 ?_
    refine lv_topi (fun y ey => ?_)
    obtain rfl : y = nI (k + 1) := ey.trans (by rw [ea]; exact nI_1 _)
    refine va_put (D := (dC, dI)) (ci := 11) (v := .int (nI (k + 1))) (ty := .int) (C := RX11) (T := TX11) (N := 63) hx hb hts in_wsX11_unit_X11 tyX11 tyX11_ok nmX11 hown hK hP hD hS 0 rfl rfl 47 (by decide) (hts (.fieldLink RX11 210 "ShipOfficeModel" "at" "I") iw_X11_unit_2) (fun _ h9 => h9) rfl (by decide +kernel) rfl rfl (Nat.le_of_ble_eq_true rfl) dX11_unit_28 (fun H locs hP hD hS => ?_)
    have hP : va_P (dC, dI) vwCl (mW g0 pq cp (upd v 47 (nI (k + 1))) fa) H := hP
    have hD : va_D A (mW g0 pq cp (upd v 47 (nI (k + 1))) fa) := hD
    obtain ⟨z_91, ez_91⟩ : ∃ zq, zq = (upd v 47 (nI (k + 1))) := ⟨_, rfl⟩
    rw [← ez_91] at hP hD
    have ea_z_91 : z_91 47 = nI (k + 1) := by rw [ez_91]; rfl
    have es_z_91 : z_91 50 = nI n := by rw [ez_91]; exact es
    have hb_z_91 : z_91 49 < 0 ∨ ∃ j : Nat, j ≤ 1740 ∧ z_91 49 = nI j := by rw [ez_91]; exact hb0
    have we_z_91 : z_91 51 = 1 := by rw [ez_91]; exact hwe
    have de_z_91 : z_91 48 = nI 5 := by rw [ez_91]; exact hde
    have sm_z_91 : ∀ i, i ≠ 47 → i ≠ 48 → i ≠ 51 → z_91 i = v i := by intro i h1 h2 h3; rw [ez_91]; exact (if_neg h1).trans ((fun i _ _ _ => rfl) i h1 h2 h3)
    have hkn_z_91 : (k + 1) ≤ n := (w_2.resolve_left (ns_in hl_6))
    have hk0_z_91 : k ≤ (k + 1) := by omega
    refine lv_aload_n hx hb dX11_unit_31 rfl (lv_at hl 1 rfl) ?_
    refine va_get (D := (dC, dI)) (ci := 11) (v := .ref (pq 45)) (C := RX11) (T := TX11) (N := 63) hx hb hts in_wsX11_unit_X11 hown hK hP 0 rfl rfl 45 (by decide) (hts (.fieldLink RX11 128 "ShipOfficeModel" "letters" "[I") iw_X11_unit_4) (fun _ h9 => h9) rfl dX11_unit_32 ?_
    refine lv_iload_n hx hb dX11_unit_35 rfl (lv_at hl 0 rfl) ?_
    refine va_iald hx hb hK hP 40 39 rfl rfl hl_6 dX11_unit_36 ?_
    refine lv_i2l (v := (fa 45 (r_3 : Int32).toNatClampNeg : Int32).toInt64) hx hb dX11_unit_37 rfl ?_
    have hFc : ∀ q, va_A [] H.size q → A q := pu_free hS hA
    have hPc := hP.sub (ws' := []) [] rfl
    have hDc := hD.sub (ws' := []) [] (by decide) rfl
    have hKc := hK.sub (tys' := []) [] rfl
    refine va_calli (va_runS (As := [.long ((fa 45 (r_3 : Int32).toNatClampNeg : Int32).toInt64)]) (rest := []) ⟨hx, hb, hml, hown, hts⟩ (c_X11_held l dC dI H.size ((fa 45 (r_3 : Int32).toNatClampNeg : Int32).toInt64)) (va_cwS 1 hts gX11_unit_X11_held rfl rfl rfl (by decide +kernel) ⟨(Nat.le_of_ble_eq_true rfl), (Nat.le_of_ble_eq_true rfl)⟩) (pr_S hPc hKc hDc) rfl rfl hl.1 rfl (lv_room (Nat.le_of_ble_eq_true rfl)) dX11_unit_38 ⟨(Nat.le_of_ble_eq_true rfl), (Nat.le_of_ble_eq_true rfl)⟩) hS (fun q _ h => hFc q h) hFc (fun r_93 u t H locs ht hvm w_92 hB hz1 hk1 hS => ?_)
    have hP := pu_keep hP hk1
    clear hk1 hz1 hvm hB ht hFc hPc hDc hKc
    exact W.iret (v := r_93) hx hb hr (fun t ht hW => ⟨⟨r_93, (z_91, fa), rfl, ⟨⟨(k + 1), by omega, hkn_z_91, ea_z_91, (Or.inr ⟨we_z_91, de_z_91⟩), sm_z_91⟩, rfl⟩, ⟨by rw [ht]; exact hP, va_K.moved hW.alike hK, hD⟩⟩, hS.F ht⟩) hS.2.2 dX11_unit_41
