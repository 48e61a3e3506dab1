abbrev cX8_parse : ByteArray := prog_10_method_3_code
def yX8_parse : MethodName := ⟨RX8, "parse", "()I"⟩
def wsX8_parse_r1 : List Cond := [Cond.fieldLink RX8 22 "ShipOffice$Tape" "at" "I", Cond.fieldLink RX8 25 "ShipOffice$Tape" "codeSize" "I", Cond.fieldLink RX8 28 "ShipOffice$Tape" "fault" "I", Cond.fieldLink RX8 18 "ShipOffice$Tape" "size" "I", Cond.methodLink RX8 31 yX8_parseSum, Cond.instanceMethod yX8_parseSum, Cond.selects RX8 yX8_parseSum yX8_parseSum, Cond.initialized RX8, Cond.code yX8_parseSum cX8_parseSum 4 none, Cond.fieldLink RX8 9 "ShipOffice$Tape" "bytes" "[I", Cond.methodLink RX8 35 yX8_parseTerm, Cond.instanceMethod yX8_parseTerm, Cond.selects RX8 yX8_parseTerm yX8_parseTerm, Cond.methodLink RX8 38 yX8_sees, Cond.instanceMethod yX8_sees, Cond.selects RX8 yX8_sees yX8_sees, Cond.code yX8_sees cX8_sees 2 (some .boolean), Cond.methodLink RX8 42 yX8_emitSign, Cond.instanceMethod yX8_emitSign, Cond.selects RX8 yX8_emitSign yX8_emitSign, Cond.code yX8_emitSign cX8_emitSign 3 none, Cond.fieldLink RX8 71 "ShipOffice$Act" "SIGNS" "[C", Cond.methodLink RX8 61 yX8_emit, Cond.instanceMethod yX8_emit]
def wsX8_parse_r2 : List Cond := [Cond.selects RX8 yX8_emit yX8_emit, Cond.code yX8_emit cX8_emit 2 none, Cond.fieldLink RX8 15 "ShipOffice$Tape" "code" "[I", Cond.code yX8_parseBracket cX8_parseBracket 3 none, Cond.code yX8_parseTerm cX8_parseTerm 4 none, Cond.methodLink RX8 45 yX8_parseUnit, Cond.instanceMethod yX8_parseUnit, Cond.selects RX8 yX8_parseUnit yX8_parseUnit, Cond.code yX8_parseUnit cX8_parseUnit 3 none, Cond.methodLink RX8 48 yX8_letterHere, Cond.instanceMethod yX8_letterHere, Cond.selects RX8 yX8_letterHere yX8_letterHere, Cond.code yX8_letterHere cX8_letterHere 2 (some .int), Cond.methodLink RX8 52 yX8_seesDigit, Cond.instanceMethod yX8_seesDigit, Cond.selects RX8 yX8_seesDigit yX8_seesDigit, Cond.code yX8_seesDigit cX8_seesDigit 1 (some .boolean), Cond.methodLink RX8 56 yX8_parseNumber, Cond.instanceMethod yX8_parseNumber, Cond.selects RX8 yX8_parseNumber yX8_parseNumber, Cond.code yX8_parseNumber cX8_parseNumber 3 none, Cond.methodLink RX8 64 yX8_parseBracket, Cond.instanceMethod yX8_parseBracket, Cond.selects RX8 yX8_parseBracket yX8_parseBracket]
def wsX8_parse : List Cond := .code yX8_parse cX8_parse 1 (some .int) :: ((wsX8_parse_r1 ++ wsX8_parse_r2) ++ wsX80)
theorem il_X8_parse_1 : ∀ w ∈ wsX8_parse_r1, w ∈ wsX8_parse := fun w h => (List.mem_cons_of_mem _ (List.mem_append_left _ (List.mem_append_left _ h)))
theorem il_X8_parse_2 : ∀ w ∈ wsX8_parse_r2, w ∈ wsX8_parse := fun w h => (List.mem_cons_of_mem _ (List.mem_append_left _ (List.mem_append_right _ h)))
theorem il_X8_parse_3 : ∀ w ∈ wsX80, w ∈ wsX8_parse := fun w h => (List.mem_cons_of_mem _ (List.mem_append_right _ h))
theorem iw_X8_parse_1 : Cond.fieldLink RX8 22 "ShipOffice$Tape" "at" "I" ∈ wsX8_parse := (mmI il_X8_parse_1 0 rfl)
theorem iw_X8_parse_2 : Cond.fieldLink RX8 25 "ShipOffice$Tape" "codeSize" "I" ∈ wsX8_parse := (mmI il_X8_parse_1 1 rfl)
theorem iw_X8_parse_3 : Cond.fieldLink RX8 28 "ShipOffice$Tape" "fault" "I" ∈ wsX8_parse := (mmI il_X8_parse_1 2 rfl)
theorem iw_X8_parse_4 : Cond.fieldLink RX8 18 "ShipOffice$Tape" "size" "I" ∈ wsX8_parse := (mmI il_X8_parse_1 3 rfl)
set_option maxRecDepth 100000 in
theorem ggX8_parse_X8_parseSum : GoodIn wsX8_parse wsX8_parseSum := goodIn_sub (mmC (mmI il_X8_parse_1 8 rfl) (mmA (mmA (mmC (mmI il_X8_parse_1 2 rfl) (mmC (mmI il_X8_parse_1 9 rfl) (mmC (mmI il_X8_parse_1 0 rfl) (mmC (mmI il_X8_parse_1 10 rfl) (mmC (mmI il_X8_parse_1 11 rfl) (mmC (mmI il_X8_parse_1 12 rfl) (mmC (mmI il_X8_parse_1 7 rfl) (mmC (mmI il_X8_parse_1 13 rfl) (mmC (mmI il_X8_parse_1 14 rfl) (mmC (mmI il_X8_parse_1 15 rfl) (mmC (mmI il_X8_parse_1 16 rfl) (mmC (mmI il_X8_parse_1 3 rfl) (mmC (mmI il_X8_parse_1 17 rfl) (mmC (mmI il_X8_parse_1 18 rfl) (mmC (mmI il_X8_parse_1 19 rfl) (mmC (mmI il_X8_parse_1 20 rfl) (mmC (mmI il_X8_parse_1 21 rfl) (mmC (mmI il_X8_parse_1 22 rfl) (mmC (mmI il_X8_parse_1 23 rfl) (mmC (mmI il_X8_parse_2 0 rfl) (mmC (mmI il_X8_parse_2 1 rfl) (mmC (mmI il_X8_parse_1 1 rfl) (mmC (mmI il_X8_parse_2 2 rfl) (mmC (mmI il_X8_parse_2 3 rfl) mmN)))))))))))))))))))))))) (mmC (mmI il_X8_parse_1 4 rfl) (mmC (mmI il_X8_parse_1 5 rfl) (mmC (mmI il_X8_parse_1 6 rfl) (mmC (mmI il_X8_parse_2 4 rfl) (mmC (mmI il_X8_parse_2 5 rfl) (mmC (mmI il_X8_parse_2 6 rfl) (mmC (mmI il_X8_parse_2 7 rfl) (mmC (mmI il_X8_parse_2 8 rfl) (mmC (mmI il_X8_parse_2 9 rfl) (mmC (mmI il_X8_parse_2 10 rfl) (mmC (mmI il_X8_parse_2 11 rfl) (mmC (mmI il_X8_parse_2 12 rfl) (mmC (mmI il_X8_parse_2 13 rfl) (mmC (mmI il_X8_parse_2 14 rfl) (mmC (mmI il_X8_parse_2 15 rfl) (mmC (mmI il_X8_parse_2 16 rfl) (mmC (mmI il_X8_parse_2 17 rfl) (mmC (mmI il_X8_parse_2 18 rfl) (mmC (mmI il_X8_parse_2 19 rfl) (mmC (mmI il_X8_parse_2 20 rfl) (mmC (mmI il_X8_parse_2 21 rfl) (mmC (mmI il_X8_parse_2 22 rfl) (mmC (mmI il_X8_parse_2 23 rfl) mmN)))))))))))))))))))))))) il_X8_parse_3)) gw_X8_parseSum
theorem gX8_parse_X8_parseSum : GoodIn wsX8_parse (wsV RX8 31 RX8 yX8_parseSum wsX8_parseSum) := goodIn_app (goodIn_sub (mmC (mmI il_X8_parse_1 4 rfl) (mmC (mmI il_X8_parse_1 5 rfl) (mmC (mmI il_X8_parse_1 6 rfl) (mmC (mmI il_X8_parse_1 7 rfl) mmN)))) (by decide +kernel)) ggX8_parse_X8_parseSum
theorem dX8_parse_0 : decode cX8_parse 0 = .ok (.aload_n 0, 1) := by decide +kernel
theorem dX8_parse_1 : decode cX8_parse 1 = .ok (.iconst 0, 1) := by decide +kernel
theorem dX8_parse_2 : decode cX8_parse 2 = .ok (.putfield 22, 3) := by decide +kernel
theorem dX8_parse_5 : decode cX8_parse 5 = .ok (.aload_n 0, 1) := by decide +kernel
theorem dX8_parse_6 : decode cX8_parse 6 = .ok (.iconst 0, 1) := by decide +kernel
theorem dX8_parse_7 : decode cX8_parse 7 = .ok (.putfield 25, 3) := by decide +kernel
theorem dX8_parse_10 : decode cX8_parse 10 = .ok (.aload_n 0, 1) := by decide +kernel
theorem dX8_parse_11 : decode cX8_parse 11 = .ok (.iconst (-1), 1) := by decide +kernel
theorem dX8_parse_12 : decode cX8_parse 12 = .ok (.putfield 28, 3) := by decide +kernel
theorem dX8_parse_15 : decode cX8_parse 15 = .ok (.aload_n 0, 1) := by decide +kernel
theorem dX8_parse_16 : decode cX8_parse 16 = .ok (.iconst 0, 1) := by decide +kernel
theorem dX8_parse_17 : decode cX8_parse 17 = .ok (.invokevirtual 31, 3) := by decide +kernel
theorem dX8_parse_20 : decode cX8_parse 20 = .ok (.aload_n 0, 1) := by decide +kernel
theorem dX8_parse_21 : decode cX8_parse 21 = .ok (.getfield 28, 3) := by decide +kernel
theorem dX8_parse_24 : decode cX8_parse 24 = .ok (.ifCond .ge 22, 3) := by decide +kernel
theorem dX8_parse_27 : decode cX8_parse 27 = .ok (.aload_n 0, 1) := by decide +kernel
theorem dX8_parse_28 : decode cX8_parse 28 = .ok (.getfield 22, 3) := by decide +kernel
theorem dX8_parse_31 : decode cX8_parse 31 = .ok (.aload_n 0, 1) := by decide +kernel
theorem dX8_parse_32 : decode cX8_parse 32 = .ok (.getfield 18, 3) := by decide +kernel
theorem dX8_parse_35 : decode cX8_parse 35 = .ok (.if_icmp .ge 11, 3) := by decide +kernel
theorem dX8_parse_38 : decode cX8_parse 38 = .ok (.aload_n 0, 1) := by decide +kernel
theorem dX8_parse_39 : decode cX8_parse 39 = .ok (.aload_n 0, 1) := by decide +kernel
theorem dX8_parse_40 : decode cX8_parse 40 = .ok (.getfield 22, 3) := by decide +kernel
theorem dX8_parse_43 : decode cX8_parse 43 = .ok (.putfield 28, 3) := by decide +kernel
theorem dX8_parse_46 : decode cX8_parse 46 = .ok (.aload_n 0, 1) := by decide +kernel
theorem dX8_parse_47 : decode cX8_parse 47 = .ok (.getfield 28, 3) := by decide +kernel
theorem dX8_parse_50 : decode cX8_parse 50 = .ok (.ireturn, 1) := by decide +kernel
theorem in_wsX8_parse_X8 : ∀ w ∈ wsX80, w ∈ wsX8_parse := fun w h => List.mem_cons_of_mem _ (List.mem_append_right _ h)

set_option maxHeartbeats 4000000 in
set_option maxRecDepth 100000 in
theorem c_X8_parseUnit_1 (l : Launch) (dC : Nat → ClassId) (dI : Nat → Nat → Nat) (sz : Nat) (tL tS tG : Nat) (cq : Nat → ClassId) (Z : oS) (gI : oInv Z) (o : Nat) (to : oty Z o 8) (x1 : Int32) (hx1 : 1 ≤ x1.toInt ∧ x1.toInt ≤ 1) : Met l yX8_parseUnit wsX8_parseUnit ({ frames := 18, cells := 0, slots := 0, locals := 403 }) (va_Pc [.ref o, .int x1] (pcO (dC, dI) (oT cq) (oW cq Z) sz tL tS tG (oW cq Z))) (va_Qv (fun (u : oS) => oInv u ∧ oX [803, 804, 805, 2063] Z u) (fun u t => va_P (dC, dI) vwCl (oW cq u) t.heap ∧ va_K (dC, dI) vwCl (oT cq) t ∧ va_D (va_A (oW cq Z) sz) (oW cq u)) (va_A (oW cq Z) sz)) 0 0 (va_A (oW cq Z) sz) := by
  refine Met.ofW (cc := cX8_parseUnit) (maxL := 3) (ret := none) (by decide) rfl ?_
  intro p e s m args below meth c s₁ B hml hv
  obtain ⟨rfl, ⟨hsz, hP, hK, hD0⟩, hZ⟩ := hv
  have hx := B.exec
  have hb := B.bytes
  have hr := B.returns
  have hts := atoms_spec (ws := wsX8_parseUnit) B.pre
  have hown : s.vm.findClass RX8 = some m.cls := findClass_of_methodNamed B.named
  have hlocks := B.notSynchronized
  subst hsz
  have hD := hD0.self (sz := s.heap.size)
  generalize hAe : va_A (oW cq Z) s.heap.size = A at hD hZ ⊢
  have hA : ∀ q : Nat, s.heap.size ≤ q → A q := fun q h => by rw [← hAe]; exact Or.inr h
  have hS : va_S A s.heap s.heap [] := va_S.rf
  have hP : va_P (dC, dI) vwCl (oW cq Z) s.heap := hP
  have hl := lv_entry ([.ref o, .int x1]) (n := 3) (Nat.le_of_ble_eq_true rfl)
  rw [lg_entry_eq]
  generalize (lg_sl ([.ref o, .int x1]) ++ List.replicate (3 - (lg_sl ([.ref o, .int x1])).length) Slot.unset).toArray = ls at hl ⊢
  have hl : lv_has ls 3 [(0, .ref o), (1, .int x1)] := hl
  refine lv_aload_n hx hb dX8_parseUnit_0 rfl (lv_at hl 0 rfl) ?_
  have hFc : ∀ q, va_A [] s.heap.size q → A q := pu_free hS hA
  obtain ⟨q_1, hq_1⟩ := og (cq := cq) to.1 (oE_8 to.2)
  refine va_calli (va_runV (As := []) (rest := []) ⟨hx, hb, hml, hown, hts⟩ (c_X8_letterHere l dC dI s.heap.size tL tS tG cq Z gI o to) (cwV 0 hts gX8_parseUnit_X8_letterHere rfl rfl rfl (by decide +kernel) ⟨(Nat.le_of_ble_eq_true rfl), (Nat.le_of_ble_eq_true rfl)⟩) (pr_VO (r := (RX8, TX8, 6)) hP hK hD q_1 8 rfl hq_1 (hZ.go hS hFc)) rfl rfl hl.1 rfl (lv_room (Nat.le_of_ble_eq_true rfl)) dX8_parseUnit_1 ⟨(Nat.le_of_ble_eq_true rfl), (Nat.le_of_ble_eq_true rfl)⟩) hS (fun q _ h => hFc q h) hFc (fun r_3 u t H locs ht hvm w_2 hB hz1 hk1 hS => ?_)
  have hP := pu_keep hP hk1
  clear hk1 hz1 hvm hB ht hFc
  obtain ⟨hb_4, hx_5⟩ := w_2
  refine lv_istore_n (lv' := [(2, .int r_3), (0, .ref o), (1, .int x1)]) hx hb dX8_parseUnit_4 rfl hl (by decide) rfl (fun ls hl => ?_)
  refine lv_aload_n hx hb dX8_parseUnit_5 rfl (lv_at hl 1 rfl) ?_
  have hFc : ∀ q, va_A [] H.size q → A q := pu_free hS hA
  refine va_calli (va_runV (As := []) (rest := []) ⟨hx, hb, hml, hown, hts⟩ (c_X8_seesDigit l dC dI H.size cq Z gI o to) (cwV 0 hts gX8_parseUnit_X8_seesDigit rfl rfl rfl (by decide +kernel) ⟨(Nat.le_of_ble_eq_true rfl), (Nat.le_of_ble_eq_true rfl)⟩) (pr_V (r := (RX8, TX8, 6)) hP hK hD q_1 8 rfl hq_1) rfl rfl hl.1 rfl (lv_room (Nat.le_of_ble_eq_true rfl)) dX8_parseUnit_6 ⟨(Nat.le_of_ble_eq_true rfl), (Nat.le_of_ble_eq_true rfl)⟩) hS (fun q _ h => hFc q h) hFc (fun r_7 u t H locs ht hvm w_6 hB hz1 hk1 hS => ?_)
  have hP := pu_keep hP hk1
  clear hk1 hz1 hvm hB ht hFc
  obtain ⟨hb_8, hx_9⟩ := w_6
  refine lv_if_eq (tgt := 19) hx hb dX8_parseUnit_9 (by decide) (fun c_10 => ?_) (fun c_10 => ?_)
  · have dc_10 := c_eq (a := r_7.toInt) (b := 0) rfl (by decide) c_10
    refine lv_iload_n hx hb dX8_parseUnit_19 rfl (lv_at hl 0 rfl) ?_
    refine lv_if_lt (tgt := 43) hx hb dX8_parseUnit_20 (by decide) (fun c_11 => ?_) (fun c_11 => ?_)
    · have dc_11 := c_lt (a := r_3.toInt) (b := 0) rfl (by decide) c_11
      refine lv_aload_n hx hb dX8_parseUnit_43 rfl (lv_at hl 1 rfl) ?_
      refine lv_bipush (v := 40) hx hb dX8_parseUnit_44 (by decide) ?_
      have hFc : ∀ q, va_A [] H.size q → A q := pu_free hS hA
      refine va_calli (va_runV (As := [.int 40]) (rest := []) ⟨hx, hb, hml, hown, hts⟩ (c_X8_sees l dC dI H.size cq Z gI o to 40) (cwV 1 hts gX8_parseUnit_X8_sees rfl rfl rfl (by decide +kernel) ⟨(Nat.le_of_ble_eq_true rfl), (Nat.le_of_ble_eq_true rfl)⟩) (pr_V (r := (RX8, TX8, 6)) hP hK hD q_1 8 rfl hq_1) rfl rfl hl.1 rfl (lv_room (Nat.le_of_ble_eq_true rfl)) dX8_parseUnit_46 ⟨(Nat.le_of_ble_eq_true rfl), (Nat.le_of_ble_eq_true rfl)⟩) hS (fun q _ h => hFc q h) hFc (fun r_13 u t H locs ht hvm w_12 hB hz1 hk1 hS => ?_)
      have hP := pu_keep hP hk1
      clear hk1 hz1 hvm hB ht hFc
      obtain ⟨hb_14, hx_15⟩ := w_12
      refine lv_if_eq (tgt := 77) hx hb dX8_parseUnit_49 (by decide) (fun c_16 => ?_) (fun c_16 => ?_)
      · have dc_16 := c_eq (a := r_13.toInt) (b := 0) rfl (by decide) c_16
        refine lv_aload_n hx hb dX8_parseUnit_77 rfl (lv_at hl 1 rfl) ?_
        refine lv_aload_n hx hb dX8_parseUnit_78 rfl (lv_at hl 1 rfl) ?_
        refine va_get (D := (dC, dI)) (ci := 8) (v := .int (oI Z o 4)) (C := RX8) (T := TX8) (N := 6) hx hb hts in_wsX8_parseUnit_X8 hown hK hP q_1 hq_1 rfl 4 (by decide) (hts (.fieldLink RX8 22 "ShipOffice$Tape" "at" "I") iw_X8_parseUnit_1) (fun _ h9 => h9) rfl dX8_parseUnit_79 ?_
        refine lv_topi (fun x_17 ex_17 => ?_)
        have hx_17 : 0 ≤ x_17.toInt ∧ x_17.toInt ≤ 60 := iv_of ex_17 (oInv.iv gI to.2 rfl rfl)
        have gx_17 : x_17.toInt = (oI Z o 4).toInt := iv_to ex_17
        clear ex_17
        refine va_put (D := (dC, dI)) (ci := 8) (v := .int x_17) (ty := .int) (C := RX8) (T := TX8) (N := 6) hx hb hts in_wsX8_parseUnit_X8 tyX8 tyX8_ok nmX8 hown hK hP hD hS q_1 hq_1 rfl 5 (by decide) (hts (.fieldLink RX8 28 "ShipOffice$Tape" "fault" "I") iw_X8_parseUnit_2) (fun _ h9 => h9) rfl (by decide +kernel) rfl rfl (Nat.le_of_ble_eq_true rfl) dX8_parseUnit_82 (fun H locs hP1 hD1 hS => ?_)
        obtain ⟨S_18, eS_18⟩ : ∃ zq, zq = setI Z o 5 x_17 := ⟨_, rfl⟩
        have hP : va_P (dC, dI) vwCl (oW cq S_18) H := by rw [eS_18]; exact cP (oset to.1 hq_1 hD rfl (he_8_5 to.2) neI) hP1
        have hD : va_D A (oW cq S_18) := by rw [eS_18]; exact cD (oset to.1 hq_1 hD rfl (he_8_5 to.2) neI) hD1
        clear hP1 hD1
        have hIS_18 : oInv S_18 := by rw [eS_18]; exact oInv.I0 (k := 8) (lo := -2147483648) (hi := 2147483647) gI to.2 (by decide) rfl rfl rfl (iv_all _)
        have XS_18 : oX [805] Z S_18 := by rw [eS_18]; exact oX.I (k := 8) (key := 805) to.2 rfl (List.mem_singleton.mpr rfl)
        have X_19 : oX [803, 804, 805, 2063] Z S_18 := oX.st oX.rf XS_18 (by decide)
        have g_20 : (oI S_18 o 4).toInt = (oI Z o 4).toInt := by rw [eS_18, setI_ne (by decide)]
        exact W.vret hx hb hr (fun t ht hW => ⟨⟨S_18, rfl, ⟨hIS_18, X_19⟩, ⟨by rw [ht]; exact hP, va_K.moved hW.alike hK, hD⟩⟩, hS.F ht⟩) hS.2.2 dX8_parseUnit_85
      · have dc_16 := c_ne (a := r_13.toInt) (b := 0) rfl (by decide) c_16
        have hi_21 := Or.resolve_left hx_15 c_16
        refine lv_iload_n hx hb dX8_parseUnit_52 rfl (lv_at hl 2 rfl) ?_
        refine lv_iconst (v := 5) hx hb dX8_parseUnit_53 (by decide) ?_
        refine lv_icmp_ge (tgt := 77) hx hb dX8_parseUnit_54 (by decide) (fun c_22 => ?_) (fun c_22 => ?_)
        · have dc_22 := c_le (a := 5) (b := x1.toInt) (by decide) rfl c_22
          exfalso; omega
        · have dc_22 := c_nle (a := 5) (b := x1.toInt) (by decide) rfl c_22
          refine lv_aload_n hx hb dX8_parseUnit_57 rfl (lv_at hl 1 rfl) ?_
          refine lv_dup hx hb dX8_parseUnit_58 rfl ?_
          refine va_get (D := (dC, dI)) (ci := 8) (v := .int (oI Z o 4)) (C := RX8) (T := TX8) (N := 6) hx hb hts in_wsX8_parseUnit_X8 hown hK hP q_1 hq_1 rfl 4 (by decide) (hts (.fieldLink RX8 22 "ShipOffice$Tape" "at" "I") iw_X8_parseUnit_1) (fun _ h9 => h9) rfl dX8_parseUnit_59 ?_
          refine lv_topi (fun x_23 ex_23 => ?_)
          have hx_23 : 0 ≤ x_23.toInt ∧ x_23.toInt ≤ 60 := iv_of ex_23 (oInv.iv gI to.2 rfl rfl)
          have gx_23 : x_23.toInt = (oI Z o 4).toInt := iv_to ex_23
          clear ex_23
          refine lv_iconst (v := 1) hx hb dX8_parseUnit_62 (by decide) ?_
          refine lv_iadd hx hb dX8_parseUnit_63 ?_
          refine lv_topi (fun x_24 ex_24 => ?_)
          have hx_24 : x_24.toInt = x_23.toInt + 1 := (iv_to ex_24).trans (ad_i rfl (by decide) (by omega) (by omega))
          clear ex_24
          refine va_put (D := (dC, dI)) (ci := 8) (v := .int x_24) (ty := .int) (C := RX8) (T := TX8) (N := 6) hx hb hts in_wsX8_parseUnit_X8 tyX8 tyX8_ok nmX8 hown hK hP hD hS q_1 hq_1 rfl 4 (by decide) (hts (.fieldLink RX8 22 "ShipOffice$Tape" "at" "I") iw_X8_parseUnit_1) (fun _ h9 => h9) rfl (by decide +kernel) rfl rfl (Nat.le_of_ble_eq_true rfl) dX8_parseUnit_64 (fun H locs hP1 hD1 hS => ?_)
          obtain ⟨S_25, eS_25⟩ : ∃ zq, zq = setI Z o 4 x_24 := ⟨_, rfl⟩
          have hP : va_P (dC, dI) vwCl (oW cq S_25) H := by rw [eS_25]; exact cP (oset to.1 hq_1 hD rfl (he_8_4 to.2) neI) hP1
          have hD : va_D A (oW cq S_25) := by rw [eS_25]; exact cD (oset to.1 hq_1 hD rfl (he_8_4 to.2) neI) hD1
          clear hP1 hD1
          have hIS_25 : oInv S_25 := by rw [eS_25]; exact oInv.I0 (k := 8) (lo := 0) (hi := 60) gI to.2 (by decide) rfl rfl rfl (by omega)
          have XS_25 : oX [804] Z S_25 := by rw [eS_25]; exact oX.I (k := 8) (key := 804) to.2 rfl (List.mem_singleton.mpr rfl)
          have X_26 : oX [803, 804, 805, 2063] Z S_25 := oX.st oX.rf XS_25 (by decide)
          have g_27 : (oI S_25 o 4).toInt = x_24.toInt := by rw [eS_25, setI_same]
          refine lv_aload_n hx hb dX8_parseUnit_67 rfl (lv_at hl 1 rfl) ?_
          refine lv_iload_n hx hb dX8_parseUnit_68 rfl (lv_at hl 2 rfl) ?_
          refine lv_iconst (v := 1) hx hb dX8_parseUnit_69 (by decide) ?_
          refine lv_iadd hx hb dX8_parseUnit_70 ?_
          refine lv_topi (fun x_28 ex_28 => ?_)
          have hx_28 : x_28.toInt = x1.toInt + 1 := (iv_to ex_28).trans (ad_i rfl (by decide) (by omega) (by omega))
          clear ex_28
          have t_29 : oty S_25 o 8 := (oX.ty XS_25 to)
          have hFc := o_free hD hS hA
          obtain ⟨q_30, hq_30⟩ := og (cq := cq) t_29.1 (oE_8 t_29.2)
          refine va_callv (va_runV (As := [.int x_28]) (rest := []) ⟨hx, hb, hml, hown, hts⟩ (c_X8_parseBracket_2 l dC dI H.size tL tS tG cq S_25 hIS_25 o t_29 x_28 (by omega)) (cwV 1 hts gX8_parseUnit_X8_parseBracket rfl rfl rfl (by decide +kernel) ⟨(Nat.le_of_ble_eq_true rfl), (Nat.le_of_ble_eq_true rfl)⟩) (pr_VO (r := (RX8, TX8, 6)) hP hK hD q_30 8 rfl hq_30 (hZ.go hS hFc)) rfl rfl hl.1 rfl (lv_room (Nat.le_of_ble_eq_true rfl)) dX8_parseUnit_71 ⟨(Nat.le_of_ble_eq_true rfl), (Nat.le_of_ble_eq_true rfl)⟩) hS (fun q _ h => hFc q h) hFc (fun u t H locs ht hvm w_31 hB hz1 hk1 hS => ?_)
          obtain ⟨S_33, rfl⟩ : ∃ z, z = u := ⟨_, rfl⟩
          obtain ⟨hP1, hK1, hD1⟩ := hB
          rw [ht] at hP1
          have hP : va_P (dC, dI) vwCl (oW cq S_33) H := hP1
          have hD : va_D A (oW cq S_33) := hD1.weaken (fun _ _ _ h => hFc _ h)
          clear hP1 hK1 hD1 hk1 hz1 hvm ht hFc
          obtain ⟨hIS_33, XS_33⟩ := w_31
          have X_34 : oX [803, 804, 805, 2063] Z S_33 := oX.st X_26 XS_33 (by decide)
          refine lv_goto (tgt := 85) hx hb dX8_parseUnit_74 (by decide) ?_
          exact W.vret hx hb hr (fun t ht hW => ⟨⟨S_33, rfl, ⟨hIS_33, X_34⟩, ⟨by rw [ht]; exact hP, va_K.moved hW.alike hK, hD⟩⟩, hS.F ht⟩) hS.2.2 dX8_parseUnit_85
    · have dc_11 := c_nlt (a := r_3.toInt) (b := 0) rfl (by decide) c_11
      have hi_35 := Or.resolve_left hx_5 (by omega)
      refine lv_aload_n hx hb dX8_parseUnit_23 rfl (lv_at hl 1 rfl) ?_
      refine lv_dup hx hb dX8_parseUnit_24 rfl ?_
      refine va_get (D := (dC, dI)) (ci := 8) (v := .int (oI Z o 4)) (C := RX8) (T := TX8) (N := 6) hx hb hts in_wsX8_parseUnit_X8 hown hK hP q_1 hq_1 rfl 4 (by decide) (hts (.fieldLink RX8 22 "ShipOffice$Tape" "at" "I") iw_X8_parseUnit_1) (fun _ h9 => h9) rfl dX8_parseUnit_25 ?_
      refine lv_topi (fun x_36 ex_36 => ?_)
      have hx_36 : 0 ≤ x_36.toInt ∧ x_36.toInt ≤ 60 := iv_of ex_36 (oInv.iv gI to.2 rfl rfl)
      have gx_36 : x_36.toInt = (oI Z o 4).toInt := iv_to ex_36
      clear ex_36
      refine lv_iconst (v := 1) hx hb dX8_parseUnit_28 (by decide) ?_
      refine lv_iadd hx hb dX8_parseUnit_29 ?_
      refine lv_topi (fun x_37 ex_37 => ?_)
      have hx_37 : x_37.toInt = x_36.toInt + 1 := (iv_to ex_37).trans (ad_i rfl (by decide) (by omega) (by omega))
      clear ex_37
      refine va_put (D := (dC, dI)) (ci := 8) (v := .int x_37) (ty := .int) (C := RX8) (T := TX8) (N := 6) hx hb hts in_wsX8_parseUnit_X8 tyX8 tyX8_ok nmX8 hown hK hP hD hS q_1 hq_1 rfl 4 (by decide) (hts (.fieldLink RX8 22 "ShipOffice$Tape" "at" "I") iw_X8_parseUnit_1) (fun _ h9 => h9) rfl (by decide +kernel) rfl rfl (Nat.le_of_ble_eq_true rfl) dX8_parseUnit_30 (fun H locs hP1 hD1 hS => ?_)
      obtain ⟨S_38, eS_38⟩ : ∃ zq, zq = setI Z o 4 x_37 := ⟨_, rfl⟩
      have hP : va_P (dC, dI) vwCl (oW cq S_38) H := by rw [eS_38]; exact cP (oset to.1 hq_1 hD rfl (he_8_4 to.2) neI) hP1
      have hD : va_D A (oW cq S_38) := by rw [eS_38]; exact cD (oset to.1 hq_1 hD rfl (he_8_4 to.2) neI) hD1
      clear hP1 hD1
      have hIS_38 : oInv S_38 := by rw [eS_38]; exact oInv.I0 (k := 8) (lo := 0) (hi := 60) gI to.2 (by decide) rfl rfl rfl (by omega)
      have XS_38 : oX [804] Z S_38 := by rw [eS_38]; exact oX.I (k := 8) (key := 804) to.2 rfl (List.mem_singleton.mpr rfl)
      have X_39 : oX [803, 804, 805, 2063] Z S_38 := oX.st oX.rf XS_38 (by decide)
      have g_40 : (oI S_38 o 4).toInt = x_37.toInt := by rw [eS_38, setI_same]
      refine lv_aload_n hx hb dX8_parseUnit_33 rfl (lv_at hl 1 rfl) ?_
      refine lv_iconst (v := (-1)) hx hb dX8_parseUnit_34 (by decide) ?_
      refine lv_iload_n hx hb dX8_parseUnit_35 rfl (lv_at hl 0 rfl) ?_
      refine lv_isub hx hb dX8_parseUnit_36 ?_
      refine lv_topi (fun x_41 ex_41 => ?_)
      have hx_41 : x_41.toInt = (-1) - r_3.toInt := (iv_to ex_41).trans (sb_i (by decide) rfl (by omega) (by omega))
      clear ex_41
      have t_42 : oty S_38 o 8 := (oX.ty XS_38 to)
      have hFc := o_free hD hS hA
      obtain ⟨q_43, hq_43⟩ := og (cq := cq) t_42.1 (oE_8 t_42.2)
      refine va_callv (va_runV (As := [.int x_41]) (rest := []) ⟨hx, hb, hml, hown, hts⟩ (c_X8_emit l dC dI H.size cq S_38 hIS_38 o t_42 x_41) (cwV 1 hts gX8_parseUnit_X8_emit rfl rfl rfl (by decide +kernel) ⟨(Nat.le_of_ble_eq_true rfl), (Nat.le_of_ble_eq_true rfl)⟩) (pr_V (r := (RX8, TX8, 6)) hP hK hD q_43 8 rfl hq_43) rfl rfl hl.1 rfl (lv_room (Nat.le_of_ble_eq_true rfl)) dX8_parseUnit_37 ⟨(Nat.le_of_ble_eq_true rfl), (Nat.le_of_ble_eq_true rfl)⟩) hS (fun q _ h => hFc q h) hFc (fun u t H locs ht hvm w_44 hB hz1 hk1 hS => ?_)
      obtain ⟨S_46, rfl⟩ : ∃ z, z = u := ⟨_, rfl⟩
      obtain ⟨hP1, hK1, hD1⟩ := hB
      rw [ht] at hP1
      have hP : va_P (dC, dI) vwCl (oW cq S_46) H := hP1
      have hD : va_D A (oW cq S_46) := hD1.weaken (fun _ _ _ h => hFc _ h)
      clear hP1 hK1 hD1 hk1 hz1 hvm ht hFc
      obtain ⟨hIS_46, XS_46⟩ := w_44
      have X_47 : oX [803, 804, 805, 2063] Z S_46 := oX.st X_39 XS_46 (by decide)
      refine lv_goto (tgt := 85) hx hb dX8_parseUnit_40 (by decide) ?_
      exact W.vret hx hb hr (fun t ht hW => ⟨⟨S_46, rfl, ⟨hIS_46, X_47⟩, ⟨by rw [ht]; exact hP, va_K.moved hW.alike hK, hD⟩⟩, hS.F ht⟩) hS.2.2 dX8_parseUnit_85
  · have dc_10 := c_ne (a := r_7.toInt) (b := 0) rfl (by decide) c_10
    have hi_48 := Or.resolve_left hx_9 c_10
    refine lv_aload_n hx hb dX8_parseUnit_12 rfl (lv_at hl 1 rfl) ?_
    have hFc := o_free hD hS hA
    refine va_callv (va_runV (As := []) (rest := []) ⟨hx, hb, hml, hown, hts⟩ (c_X8_parseNumber l dC dI H.size cq Z gI o to) (cwV 0 hts gX8_parseUnit_X8_parseNumber rfl rfl rfl (by decide +kernel) ⟨(Nat.le_of_ble_eq_true rfl), (Nat.le_of_ble_eq_true rfl)⟩) (pr_V (r := (RX8, TX8, 6)) hP hK hD q_1 8 rfl hq_1) rfl rfl hl.1 rfl (lv_room (Nat.le_of_ble_eq_true rfl)) dX8_parseUnit_13 ⟨(Nat.le_of_ble_eq_true rfl), (Nat.le_of_ble_eq_true rfl)⟩) hS (fun q _ h => hFc q h) hFc (fun u t H locs ht hvm w_49 hB hz1 hk1 hS => ?_)
    obtain ⟨S_51, rfl⟩ : ∃ z, z = u := ⟨_, rfl⟩
    obtain ⟨hP1, hK1, hD1⟩ := hB
    rw [ht] at hP1
    have hP : va_P (dC, dI) vwCl (oW cq S_51) H := hP1
    have hD : va_D A (oW cq S_51) := hD1.weaken (fun _ _ _ h => hFc _ h)
    clear hP1 hK1 hD1 hk1 hz1 hvm ht hFc
    obtain ⟨hIS_51, XS_51⟩ := w_49
    have X_52 : oX [803, 804, 805, 2063] Z S_51 := oX.st oX.rf XS_51 (by decide)
    refine lv_goto (tgt := 85) hx hb dX8_parseUnit_16 (by decide) ?_
    exact W.vret hx hb hr (fun t ht hW => ⟨⟨S_51, rfl, ⟨hIS_51, X_52⟩, ⟨by rw [ht]; exact hP, va_K.moved hW.alike hK, hD⟩⟩, hS.F ht⟩) hS.2.2 dX8_parseUnit_85
set_option maxHeartbeats 4000000 in
set_option maxRecDepth 100000 in
theorem c_X8_parseTerm_1 (l : Launch) (dC : Nat → ClassId) (dI : Nat → Nat → Nat) (sz : Nat) (tL tS tG : Nat) (cq : Nat → ClassId) (Z : oS) (gI : oInv Z) (o : Nat) (to : oty Z o 8) (x1 : Int32) (hx1 : 1 ≤ x1.toInt ∧ x1.toInt ≤ 1) : Met l yX8_parseTerm wsX8_parseTerm ({ frames := 19, cells := 0, slots := 0, locals := 425 }) (va_Pc [.ref o, .int x1] (pcO (dC, dI) (oT cq) (oW cq Z) sz tL tS tG (oW cq Z))) (va_Qv (fun (u : oS) => oInv u ∧ oX [803, 804, 805, 2063] Z u) (fun u t => va_P (dC, dI) vwCl (oW cq u) t.heap ∧ va_K (dC, dI) vwCl (oT cq) t ∧ va_D (va_A (oW cq Z) sz) (oW cq u)) (va_A (oW cq Z) sz)) 0 0 (va_A (oW cq Z) sz) := by
  refine Met.ofW (cc := cX8_parseTerm) (maxL := 4) (ret := none) (by decide) rfl ?_
  intro p e s m args below meth c s₁ B hml hv
  obtain ⟨rfl, ⟨hsz, hP, hK, hD0⟩, hZ⟩ := hv
  have hx := B.exec
  have hb := B.bytes
  have hr := B.returns
  have hts := atoms_spec (ws := wsX8_parseTerm) B.pre
  have hown : s.vm.findClass RX8 = some m.cls := findClass_of_methodNamed B.named
  have hlocks := B.notSynchronized
  subst hsz
  have hD := hD0.self (sz := s.heap.size)
  generalize hAe : va_A (oW cq Z) s.heap.size = A at hD hZ ⊢
  have hA : ∀ q : Nat, s.heap.size ≤ q → A q := fun q h => by rw [← hAe]; exact Or.inr h
  have hS : va_S A s.heap s.heap [] := va_S.rf
  have hP : va_P (dC, dI) vwCl (oW cq Z) s.heap := hP
  have hl := lv_entry ([.ref o, .int x1]) (n := 4) (Nat.le_of_ble_eq_true rfl)
  rw [lg_entry_eq]
  generalize (lg_sl ([.ref o, .int x1]) ++ List.replicate (4 - (lg_sl ([.ref o, .int x1])).length) Slot.unset).toArray = ls at hl ⊢
  have hl : lv_has ls 4 [(0, .ref o), (1, .int x1)] := hl
  refine lv_aload_n hx hb dX8_parseTerm_0 rfl (lv_at hl 0 rfl) ?_
  refine lv_iload_n hx hb dX8_parseTerm_1 rfl (lv_at hl 1 rfl) ?_
  have hFc := o_free hD hS hA
  obtain ⟨q_1, hq_1⟩ := og (cq := cq) to.1 (oE_8 to.2)
  refine va_callv (va_runV (As := [.int x1]) (rest := []) ⟨hx, hb, hml, hown, hts⟩ (c_X8_parseUnit_1 l dC dI s.heap.size tL tS tG cq Z gI o to x1 (by omega)) (cwV 1 hts gX8_parseTerm_X8_parseUnit rfl rfl rfl (by decide +kernel) ⟨(Nat.le_of_ble_eq_true rfl), (Nat.le_of_ble_eq_true rfl)⟩) (pr_VO (r := (RX8, TX8, 6)) hP hK hD q_1 8 rfl hq_1 (hZ.go hS hFc)) rfl rfl hl.1 rfl (lv_room (Nat.le_of_ble_eq_true rfl)) dX8_parseTerm_2 ⟨(Nat.le_of_ble_eq_true rfl), (Nat.le_of_ble_eq_true rfl)⟩) hS (fun q _ h => hFc q h) hFc (fun u t H locs ht hvm w_2 hB hz1 hk1 hS => ?_)
  obtain ⟨S_4, rfl⟩ : ∃ z, z = u := ⟨_, rfl⟩
  obtain ⟨hP1, hK1, hD1⟩ := hB
  rw [ht] at hP1
  have hP : va_P (dC, dI) vwCl (oW cq S_4) H := hP1
  have hD : va_D A (oW cq S_4) := hD1.weaken (fun _ _ _ h => hFc _ h)
  clear hP1 hK1 hD1 hk1 hz1 hvm ht hFc
  obtain ⟨hIS_4, XS_4⟩ := w_2
  have X_5 : oX [803, 804, 805, 2063] Z S_4 := oX.st oX.rf XS_4 (by decide)
  refine lv_iconst (v := 0) hx hb dX8_parseTerm_5 (by decide) ?_
  refine lv_istore_n (lv' := [(2, .int 0), (0, .ref o), (1, .int x1)]) hx hb dX8_parseTerm_6 rfl hl (by decide) rfl (fun ls hl => ?_)
  have cut_6 : ∀ (n : Nat) (y_7 : Int32) (S_8 : oS) (H : Heap) (locs : List Loc) (ls : Array Slot), 60 - y_7.toInt ≤ (n : Int) → (0 ≤ y_7.toInt ∧ y_7.toInt ≤ 60) → oInv S_8 → oX [803, 804, 805, 2063] S_4 S_8 → va_P (dC, dI) vwCl (oW cq S_8) H → va_D A (oW cq S_8) → va_S A s.heap H locs → lv_has ls 4 [(2, .int y_7), (0, .ref o), (1, .int x1)] → W p l e (headSpec wsX8_parseTerm { frames := 19, cells := 0, slots := 0, locals := 425 }).room s m #[Value.ref o, Value.int x1] below meth c H locs 0 0 (MQ below (va_Qv (fun (u : oS) => oInv u ∧ oX [803, 804, 805, 2063] Z u) (fun u t => va_P (dC, dI) vwCl (oW cq u) t.heap ∧ va_K (dC, dI) vwCl (oT cq) t ∧ va_D A (oW cq u)) A) #[Value.ref o, Value.int x1] s 0 0 A) (F0 m 7 ls []) := by
    intro n
    induction n using Nat.strongRecOn with
    | ind n ih =>
      intro y_7 S_8 H locs ls hm hy_7 hIS_8 XS_8 hP hD hS hl
      have YS_8 : oX [803, 804, 805, 2063] Z S_8 := oX.st X_5 XS_8 (fun _ q => q)
      refine lv_iload_n hx hb dX8_parseTerm_7 rfl (lv_at hl 0 rfl) ?_
      refine lv_bipush (v := 60) hx hb dX8_parseTerm_8 (by decide) ?_
      refine lv_icmp_ge (tgt := 74) hx hb dX8_parseTerm_10 (by decide) (fun c_9 => ?_) (fun c_9 => ?_)
      · have dc_9 := c_le (a := 60) (b := y_7.toInt) (by decide) rfl c_9
        exact W.vret hx hb hr (fun t ht hW => ⟨⟨S_8, rfl, ⟨hIS_8, YS_8⟩, ⟨by rw [ht]; exact hP, va_K.moved hW.alike hK, hD⟩⟩, hS.F ht⟩) hS.2.2 dX8_parseTerm_74
      · have dc_9 := c_nle (a := 60) (b := y_7.toInt) (by decide) rfl c_9
        refine lv_aload_n hx hb dX8_parseTerm_13 rfl (lv_at hl 1 rfl) ?_
        have t_10 : oty S_8 o 8 := (oX.ty XS_8 (oX.ty XS_4 to))
        obtain ⟨q_11, hq_11⟩ := og (cq := cq) t_10.1 (oE_8 t_10.2)
        refine va_get (D := (dC, dI)) (ci := 8) (v := .int (oI S_8 o 5)) (C := RX8) (T := TX8) (N := 6) hx hb hts in_wsX8_parseTerm_X8 hown hK hP q_11 hq_11 rfl 5 (by decide) (hts (.fieldLink RX8 28 "ShipOffice$Tape" "fault" "I") iw_X8_parseTerm_1) (fun _ h9 => h9) rfl dX8_parseTerm_14 ?_
        refine lv_topi (fun x_12 ex_12 => ?_)
        clear ex_12
        refine lv_if_ge (tgt := 74) hx hb dX8_parseTerm_17 (by decide) (fun c_13 => ?_) (fun c_13 => ?_)
        · have dc_13 := c_le (a := 0) (b := x_12.toInt) (by decide) rfl c_13
          exact W.vret hx hb hr (fun t ht hW => ⟨⟨S_8, rfl, ⟨hIS_8, YS_8⟩, ⟨by rw [ht]; exact hP, va_K.moved hW.alike hK, hD⟩⟩, hS.F ht⟩) hS.2.2 dX8_parseTerm_74
        · have dc_13 := c_nle (a := 0) (b := x_12.toInt) (by decide) rfl c_13
          refine lv_aload_n hx hb dX8_parseTerm_20 rfl (lv_at hl 1 rfl) ?_
          refine lv_bipush (v := 42) hx hb dX8_parseTerm_21 (by decide) ?_
          have hFc : ∀ q, va_A [] H.size q → A q := pu_free hS hA
          refine va_calli (va_runV (As := [.int 42]) (rest := []) ⟨hx, hb, hml, hown, hts⟩ (c_X8_sees l dC dI H.size cq S_8 hIS_8 o t_10 42) (cwV 1 hts gX8_parseTerm_X8_sees rfl rfl rfl (by decide +kernel) ⟨(Nat.le_of_ble_eq_true rfl), (Nat.le_of_ble_eq_true rfl)⟩) (pr_V (r := (RX8, TX8, 6)) hP hK hD q_11 8 rfl hq_11) rfl rfl hl.1 rfl (lv_room (Nat.le_of_ble_eq_true rfl)) dX8_parseTerm_23 ⟨(Nat.le_of_ble_eq_true rfl), (Nat.le_of_ble_eq_true rfl)⟩) hS (fun q _ h => hFc q h) hFc (fun r_15 u t H locs ht hvm w_14 hB hz1 hk1 hS => ?_)
          have hP := pu_keep hP hk1
          clear hk1 hz1 hvm hB ht hFc
          obtain ⟨hb_16, hx_17⟩ := w_14
          refine lv_if_ne (tgt := 38) hx hb dX8_parseTerm_26 (by decide) (fun c_18 => ?_) (fun c_18 => ?_)
          · have dc_18 := c_ne (a := r_15.toInt) (b := 0) rfl (by decide) c_18
            have hi_19 := Or.resolve_left hx_17 c_18
            refine lv_aload_n hx hb dX8_parseTerm_38 rfl (lv_at hl 1 rfl) ?_
            obtain ⟨b_20, hb_20⟩ := oInv.nn (i := 0) hIS_8 t_10 rfl
            refine va_get (D := (dC, dI)) (ci := 8) (v := .ref b_20) (C := RX8) (T := TX8) (N := 6) hx hb hts in_wsX8_parseTerm_X8 hown hK hP q_11 hq_11 rfl 0 (by decide) (hts (.fieldLink RX8 9 "ShipOffice$Tape" "bytes" "[I") iw_X8_parseTerm_2) (fun _ h9 => h9) (o_rd hb_20) dX8_parseTerm_39 ?_
            have tb_20 : oty S_8 b_20 160 := oInv.rd hIS_8 t_10.2 hb_20 rfl rfl
            refine lv_aload_n hx hb dX8_parseTerm_42 rfl (lv_at hl 1 rfl) ?_
            refine va_get (D := (dC, dI)) (ci := 8) (v := .int (oI S_8 o 4)) (C := RX8) (T := TX8) (N := 6) hx hb hts in_wsX8_parseTerm_X8 hown hK hP q_11 hq_11 rfl 4 (by decide) (hts (.fieldLink RX8 22 "ShipOffice$Tape" "at" "I") iw_X8_parseTerm_3) (fun _ h9 => h9) rfl dX8_parseTerm_43 ?_
            refine lv_topi (fun x_21 ex_21 => ?_)
            have hx_21 : 0 ≤ x_21.toInt ∧ x_21.toInt ≤ 60 := iv_of ex_21 (oInv.iv hIS_8 t_10.2 rfl rfl)
            have gx_21 : x_21.toInt = (oI S_8 o 4).toInt := iv_to ex_21
            clear ex_21
            obtain ⟨q_22, hq_22⟩ := og (cq := cq) tb_20.1 (oE_a1 (n := 60) tb_20.2 (by decide))
            refine va_iald hx hb hK hP q_22 0 hq_22 rfl (vp_in_iff.mpr (by omega)) dX8_parseTerm_46 ?_
            refine lv_topi (fun x_23 ex_23 => ?_)
            clear ex_23
            refine lv_istore_n (lv' := [(3, .int x_23), (2, .int y_7), (0, .ref o), (1, .int x1)]) hx hb dX8_parseTerm_47 rfl hl (by decide) rfl (fun ls hl => ?_)
            refine lv_aload_n hx hb dX8_parseTerm_48 rfl (lv_at hl 2 rfl) ?_
            refine lv_dup hx hb dX8_parseTerm_49 rfl ?_
            refine va_get (D := (dC, dI)) (ci := 8) (v := .int (oI S_8 o 4)) (C := RX8) (T := TX8) (N := 6) hx hb hts in_wsX8_parseTerm_X8 hown hK hP q_11 hq_11 rfl 4 (by decide) (hts (.fieldLink RX8 22 "ShipOffice$Tape" "at" "I") iw_X8_parseTerm_3) (fun _ h9 => h9) rfl dX8_parseTerm_50 ?_
            refine lv_topi (fun x_24 ex_24 => ?_)
            have hx_24 : 0 ≤ x_24.toInt ∧ x_24.toInt ≤ 60 := iv_of ex_24 (oInv.iv hIS_8 t_10.2 rfl rfl)
            have gx_24 : x_24.toInt = (oI S_8 o 4).toInt := iv_to ex_24
            clear ex_24
            refine lv_iconst (v := 1) hx hb dX8_parseTerm_53 (by decide) ?_
            refine lv_iadd hx hb dX8_parseTerm_54 ?_
            refine lv_topi (fun x_25 ex_25 => ?_)
            have hx_25 : x_25.toInt = x_24.toInt + 1 := (iv_to ex_25).trans (ad_i rfl (by decide) (by omega) (by omega))
            clear ex_25
            refine va_put (D := (dC, dI)) (ci := 8) (v := .int x_25) (ty := .int) (C := RX8) (T := TX8) (N := 6) hx hb hts in_wsX8_parseTerm_X8 tyX8 tyX8_ok nmX8 hown hK hP hD hS q_11 hq_11 rfl 4 (by decide) (hts (.fieldLink RX8 22 "ShipOffice$Tape" "at" "I") iw_X8_parseTerm_3) (fun _ h9 => h9) rfl (by decide +kernel) rfl rfl (Nat.le_of_ble_eq_true rfl) dX8_parseTerm_55 (fun H locs hP1 hD1 hS => ?_)
            obtain ⟨S_26, eS_26⟩ : ∃ zq, zq = setI S_8 o 4 x_25 := ⟨_, rfl⟩
            have hP : va_P (dC, dI) vwCl (oW cq S_26) H := by rw [eS_26]; exact cP (oset t_10.1 hq_11 hD rfl (he_8_4 t_10.2) neI) hP1
            have hD : va_D A (oW cq S_26) := by rw [eS_26]; exact cD (oset t_10.1 hq_11 hD rfl (he_8_4 t_10.2) neI) hD1
            clear hP1 hD1
            have hIS_26 : oInv S_26 := by rw [eS_26]; exact oInv.I0 (k := 8) (lo := 0) (hi := 60) hIS_8 t_10.2 (by decide) rfl rfl rfl (by omega)
            have XS_26 : oX [804] S_8 S_26 := by rw [eS_26]; exact oX.I (k := 8) (key := 804) t_10.2 rfl (List.mem_singleton.mpr rfl)
            have X_27 : oX [803, 804, 805, 2063] Z S_26 := oX.st YS_8 XS_26 (by decide)
            have g_28 : (oI S_26 o 4).toInt = x_25.toInt := by rw [eS_26, setI_same]
            refine lv_aload_n hx hb dX8_parseTerm_58 rfl (lv_at hl 2 rfl) ?_
            refine lv_iload_n hx hb dX8_parseTerm_59 rfl (lv_at hl 3 rfl) ?_
            have t_29 : oty S_26 o 8 := (oX.ty XS_26 t_10)
            have hFc := o_free hD hS hA
            obtain ⟨q_30, hq_30⟩ := og (cq := cq) t_29.1 (oE_8 t_29.2)
            refine va_callv (va_runV (As := [.int x1]) (rest := []) ⟨hx, hb, hml, hown, hts⟩ (c_X8_parseUnit_1 l dC dI H.size tL tS tG cq S_26 hIS_26 o t_29 x1 (by omega)) (cwV 1 hts gX8_parseTerm_X8_parseUnit rfl rfl rfl (by decide +kernel) ⟨(Nat.le_of_ble_eq_true rfl), (Nat.le_of_ble_eq_true rfl)⟩) (pr_VO (r := (RX8, TX8, 6)) hP hK hD q_30 8 rfl hq_30 (hZ.go hS hFc)) rfl rfl hl.1 rfl (lv_room (Nat.le_of_ble_eq_true rfl)) dX8_parseTerm_60 ⟨(Nat.le_of_ble_eq_true rfl), (Nat.le_of_ble_eq_true rfl)⟩) hS (fun q _ h => hFc q h) hFc (fun u t H locs ht hvm w_31 hB hz1 hk1 hS => ?_)
            obtain ⟨S_33, rfl⟩ : ∃ z, z = u := ⟨_, rfl⟩
            obtain ⟨hP1, hK1, hD1⟩ := hB
            rw [ht] at hP1
            have hP : va_P (dC, dI) vwCl (oW cq S_33) H := hP1
            have hD : va_D A (oW cq S_33) := hD1.weaken (fun _ _ _ h => hFc _ h)
            clear hP1 hK1 hD1 hk1 hz1 hvm ht hFc
            obtain ⟨hIS_33, XS_33⟩ := w_31
            have X_34 : oX [803, 804, 805, 2063] Z S_33 := oX.st X_27 XS_33 (by decide)
            refine lv_aload_n hx hb dX8_parseTerm_63 rfl (lv_at hl 2 rfl) ?_
            refine lv_iload_n hx hb dX8_parseTerm_64 rfl (lv_at hl 0 rfl) ?_
            have t_35 : oty S_33 o 8 := (oX.ty XS_33 t_29)
            have hFc := o_free hD hS hA
            obtain ⟨q_36, hq_36⟩ := og (cq := cq) t_35.1 (oE_8 t_35.2)
            refine va_callv (va_runV (As := [.int x_23]) (rest := []) ⟨hx, hb, hml, hown, hts⟩ (c_X8_emitSign l dC dI H.size tL tS tG cq S_33 hIS_33 o t_35 x_23) (cwV 1 hts gX8_parseTerm_X8_emitSign rfl rfl rfl (by decide +kernel) ⟨(Nat.le_of_ble_eq_true rfl), (Nat.le_of_ble_eq_true rfl)⟩) (pr_VO (r := (RX8, TX8, 6)) hP hK hD q_36 8 rfl hq_36 (hZ.go hS hFc)) rfl rfl hl.1 rfl (lv_room (Nat.le_of_ble_eq_true rfl)) dX8_parseTerm_65 ⟨(Nat.le_of_ble_eq_true rfl), (Nat.le_of_ble_eq_true rfl)⟩) hS (fun q _ h => hFc q h) hFc (fun u t H locs ht hvm w_37 hB hz1 hk1 hS => ?_)
            obtain ⟨S_39, rfl⟩ : ∃ z, z = u := ⟨_, rfl⟩
            obtain ⟨hP1, hK1, hD1⟩ := hB
            rw [ht] at hP1
            have hP : va_P (dC, dI) vwCl (oW cq S_39) H := hP1
            have hD : va_D A (oW cq S_39) := hD1.weaken (fun _ _ _ h => hFc _ h)
            clear hP1 hK1 hD1 hk1 hz1 hvm ht hFc
            obtain ⟨hIS_39, XS_39⟩ := w_37
            have X_40 : oX [803, 804, 805, 2063] Z S_39 := oX.st X_34 XS_39 (by decide)
            obtain ⟨x_41, ex_41⟩ : ∃ zq : Int32, y_7 + 1 = zq := ⟨_, rfl⟩
            have hx_41 : x_41.toInt = y_7.toInt + 1 := (iv_to ex_41).symm.trans (ad_i rfl (by decide) (by omega) (by omega))
            refine lv_iinc (v := x_41) (lv' := [(2, .int x_41), (3, .int x_23), (0, .ref o), (1, .int x1)]) hx hb dX8_parseTerm_68 hl (k := 1) rfl ex_41 (by decide) rfl (fun ls hl => ?_)
            clear ex_41
            refine lv_goto (tgt := 7) hx hb dX8_parseTerm_71 (by decide) ?_
            exact ih (n - 1) (by omega) x_41 S_39 _ _ ls (by omega) (by omega) hIS_39 (oX.st (oX.st (oX.st (oX.st oX.rf XS_8 (by decide)) XS_26 (by decide)) XS_33 (by decide)) XS_39 (by decide)) hP hD hS (lv_sub hl [0, 2, 3] rfl)
          · have dc_18 := c_eq (a := r_15.toInt) (b := 0) rfl (by decide) c_18
            refine lv_aload_n hx hb dX8_parseTerm_29 rfl (lv_at hl 1 rfl) ?_
            refine lv_bipush (v := 47) hx hb dX8_parseTerm_30 (by decide) ?_
            have hFc : ∀ q, va_A [] H.size q → A q := pu_free hS hA
            refine va_calli (va_runV (As := [.int 47]) (rest := []) ⟨hx, hb, hml, hown, hts⟩ (c_X8_sees l dC dI H.size cq S_8 hIS_8 o t_10 47) (cwV 1 hts gX8_parseTerm_X8_sees rfl rfl rfl (by decide +kernel) ⟨(Nat.le_of_ble_eq_true rfl), (Nat.le_of_ble_eq_true rfl)⟩) (pr_V (r := (RX8, TX8, 6)) hP hK hD q_11 8 rfl hq_11) rfl rfl hl.1 rfl (lv_room (Nat.le_of_ble_eq_true rfl)) dX8_parseTerm_32 ⟨(Nat.le_of_ble_eq_true rfl), (Nat.le_of_ble_eq_true rfl)⟩) hS (fun q _ h => hFc q h) hFc (fun r_43 u t H locs ht hvm w_42 hB hz1 hk1 hS => ?_)
            have hP := pu_keep hP hk1
            clear hk1 hz1 hvm hB ht hFc
            obtain ⟨hb_44, hx_45⟩ := w_42
            refine lv_if_eq (tgt := 74) hx hb dX8_parseTerm_35 (by decide) (fun c_46 => ?_) (fun c_46 => ?_)
            · have dc_46 := c_eq (a := r_43.toInt) (b := 0) rfl (by decide) c_46
              exact W.vret hx hb hr (fun t ht hW => ⟨⟨S_8, rfl, ⟨hIS_8, YS_8⟩, ⟨by rw [ht]; exact hP, va_K.moved hW.alike hK, hD⟩⟩, hS.F ht⟩) hS.2.2 dX8_parseTerm_74
            · have dc_46 := c_ne (a := r_43.toInt) (b := 0) rfl (by decide) c_46
              have hi_47 := Or.resolve_left hx_45 c_46
              refine lv_aload_n hx hb dX8_parseTerm_38 rfl (lv_at hl 1 rfl) ?_
              obtain ⟨b_48, hb_48⟩ := oInv.nn (i := 0) hIS_8 t_10 rfl
              refine va_get (D := (dC, dI)) (ci := 8) (v := .ref b_48) (C := RX8) (T := TX8) (N := 6) hx hb hts in_wsX8_parseTerm_X8 hown hK hP q_11 hq_11 rfl 0 (by decide) (hts (.fieldLink RX8 9 "ShipOffice$Tape" "bytes" "[I") iw_X8_parseTerm_2) (fun _ h9 => h9) (o_rd hb_48) dX8_parseTerm_39 ?_
              have tb_48 : oty S_8 b_48 160 := oInv.rd hIS_8 t_10.2 hb_48 rfl rfl
              refine lv_aload_n hx hb dX8_parseTerm_42 rfl (lv_at hl 1 rfl) ?_
              refine va_get (D := (dC, dI)) (ci := 8) (v := .int (oI S_8 o 4)) (C := RX8) (T := TX8) (N := 6) hx hb hts in_wsX8_parseTerm_X8 hown hK hP q_11 hq_11 rfl 4 (by decide) (hts (.fieldLink RX8 22 "ShipOffice$Tape" "at" "I") iw_X8_parseTerm_3) (fun _ h9 => h9) rfl dX8_parseTerm_43 ?_
              refine lv_topi (fun x_49 ex_49 => ?_)
              have hx_49 : 0 ≤ x_49.toInt ∧ x_49.toInt ≤ 60 := iv_of ex_49 (oInv.iv hIS_8 t_10.2 rfl rfl)
              have gx_49 : x_49.toInt = (oI S_8 o 4).toInt := iv_to ex_49
              clear ex_49
              obtain ⟨q_50, hq_50⟩ := og (cq := cq) tb_48.1 (oE_a1 (n := 60) tb_48.2 (by decide))
              refine va_iald hx hb hK hP q_50 0 hq_50 rfl (vp_in_iff.mpr (by omega)) dX8_parseTerm_46 ?_
              refine lv_topi (fun x_51 ex_51 => ?_)
              clear ex_51
              refine lv_istore_n (lv' := [(3, .int x_51), (2, .int y_7), (0, .ref o), (1, .int x1)]) hx hb dX8_parseTerm_47 rfl hl (by decide) rfl (fun ls hl => ?_)
              refine lv_aload_n hx hb dX8_parseTerm_48 rfl (lv_at hl 2 rfl) ?_
              refine lv_dup hx hb dX8_parseTerm_49 rfl ?_
              refine va_get (D := (dC, dI)) (ci := 8) (v := .int (oI S_8 o 4)) (C := RX8) (T := TX8) (N := 6) hx hb hts in_wsX8_parseTerm_X8 hown hK hP q_11 hq_11 rfl 4 (by decide) (hts (.fieldLink RX8 22 "ShipOffice$Tape" "at" "I") iw_X8_parseTerm_3) (fun _ h9 => h9) rfl dX8_parseTerm_50 ?_
              refine lv_topi (fun x_52 ex_52 => ?_)
              have hx_52 : 0 ≤ x_52.toInt ∧ x_52.toInt ≤ 60 := iv_of ex_52 (oInv.iv hIS_8 t_10.2 rfl rfl)
              have gx_52 : x_52.toInt = (oI S_8 o 4).toInt := iv_to ex_52
              clear ex_52
              refine lv_iconst (v := 1) hx hb dX8_parseTerm_53 (by decide) ?_
              refine lv_iadd hx hb dX8_parseTerm_54 ?_
              refine lv_topi (fun x_53 ex_53 => ?_)
              have hx_53 : x_53.toInt = x_52.toInt + 1 := (iv_to ex_53).trans (ad_i rfl (by decide) (by omega) (by omega))
              clear ex_53
              refine va_put (D := (dC, dI)) (ci := 8) (v := .int x_53) (ty := .int) (C := RX8) (T := TX8) (N := 6) hx hb hts in_wsX8_parseTerm_X8 tyX8 tyX8_ok nmX8 hown hK hP hD hS q_11 hq_11 rfl 4 (by decide) (hts (.fieldLink RX8 22 "ShipOffice$Tape" "at" "I") iw_X8_parseTerm_3) (fun _ h9 => h9) rfl (by decide +kernel) rfl rfl (Nat.le_of_ble_eq_true rfl) dX8_parseTerm_55 (fun H locs hP1 hD1 hS => ?_)
              obtain ⟨S_54, eS_54⟩ : ∃ zq, zq = setI S_8 o 4 x_53 := ⟨_, rfl⟩
              have hP : va_P (dC, dI) vwCl (oW cq S_54) H := by rw [eS_54]; exact cP (oset t_10.1 hq_11 hD rfl (he_8_4 t_10.2) neI) hP1
              have hD : va_D A (oW cq S_54) := by rw [eS_54]; exact cD (oset t_10.1 hq_11 hD rfl (he_8_4 t_10.2) neI) hD1
              clear hP1 hD1
              have hIS_54 : oInv S_54 := by rw [eS_54]; exact oInv.I0 (k := 8) (lo := 0) (hi := 60) hIS_8 t_10.2 (by decide) rfl rfl rfl (by omega)
              have XS_54 : oX [804] S_8 S_54 := by rw [eS_54]; exact oX.I (k := 8) (key := 804) t_10.2 rfl (List.mem_singleton.mpr rfl)
              have X_55 : oX [803, 804, 805, 2063] Z S_54 := oX.st YS_8 XS_54 (by decide)
              have g_56 : (oI S_54 o 4).toInt = x_53.toInt := by rw [eS_54, setI_same]
              refine lv_aload_n hx hb dX8_parseTerm_58 rfl (lv_at hl 2 rfl) ?_
              refine lv_iload_n hx hb dX8_parseTerm_59 rfl (lv_at hl 3 rfl) ?_
              have t_57 : oty S_54 o 8 := (oX.ty XS_54 t_10)
              have hFc := o_free hD hS hA
              obtain ⟨q_58, hq_58⟩ := og (cq := cq) t_57.1 (oE_8 t_57.2)
              refine va_callv (va_runV (As := [.int x1]) (rest := []) ⟨hx, hb, hml, hown, hts⟩ (c_X8_parseUnit_1 l dC dI H.size tL tS tG cq S_54 hIS_54 o t_57 x1 (by omega)) (cwV 1 hts gX8_parseTerm_X8_parseUnit rfl rfl rfl (by decide +kernel) ⟨(Nat.le_of_ble_eq_true rfl), (Nat.le_of_ble_eq_true rfl)⟩) (pr_VO (r := (RX8, TX8, 6)) hP hK hD q_58 8 rfl hq_58 (hZ.go hS hFc)) rfl rfl hl.1 rfl (lv_room (Nat.le_of_ble_eq_true rfl)) dX8_parseTerm_60 ⟨(Nat.le_of_ble_eq_true rfl), (Nat.le_of_ble_eq_true rfl)⟩) hS (fun q _ h => hFc q h) hFc (fun u t H locs ht hvm w_59 hB hz1 hk1 hS => ?_)
              obtain ⟨S_61, rfl⟩ : ∃ z, z = u := ⟨_, rfl⟩
              obtain ⟨hP1, hK1, hD1⟩ := hB
              rw [ht] at hP1
              have hP : va_P (dC, dI) vwCl (oW cq S_61) H := hP1
              have hD : va_D A (oW cq S_61) := hD1.weaken (fun _ _ _ h => hFc _ h)
              clear hP1 hK1 hD1 hk1 hz1 hvm ht hFc
              obtain ⟨hIS_61, XS_61⟩ := w_59
              have X_62 : oX [803, 804, 805, 2063] Z S_61 := oX.st X_55 XS_61 (by decide)
              refine lv_aload_n hx hb dX8_parseTerm_63 rfl (lv_at hl 2 rfl) ?_
              refine lv_iload_n hx hb dX8_parseTerm_64 rfl (lv_at hl 0 rfl) ?_
              have t_63 : oty S_61 o 8 := (oX.ty XS_61 t_57)
              have hFc := o_free hD hS hA
              obtain ⟨q_64, hq_64⟩ := og (cq := cq) t_63.1 (oE_8 t_63.2)
              refine va_callv (va_runV (As := [.int x_51]) (rest := []) ⟨hx, hb, hml, hown, hts⟩ (c_X8_emitSign l dC dI H.size tL tS tG cq S_61 hIS_61 o t_63 x_51) (cwV 1 hts gX8_parseTerm_X8_emitSign rfl rfl rfl (by decide +kernel) ⟨(Nat.le_of_ble_eq_true rfl), (Nat.le_of_ble_eq_true rfl)⟩) (pr_VO (r := (RX8, TX8, 6)) hP hK hD q_64 8 rfl hq_64 (hZ.go hS hFc)) rfl rfl hl.1 rfl (lv_room (Nat.le_of_ble_eq_true rfl)) dX8_parseTerm_65 ⟨(Nat.le_of_ble_eq_true rfl), (Nat.le_of_ble_eq_true rfl)⟩) hS (fun q _ h => hFc q h) hFc (fun u t H locs ht hvm w_65 hB hz1 hk1 hS => ?_)
              obtain ⟨S_67, rfl⟩ : ∃ z, z = u := ⟨_, rfl⟩
              obtain ⟨hP1, hK1, hD1⟩ := hB
              rw [ht] at hP1
              have hP : va_P (dC, dI) vwCl (oW cq S_67) H := hP1
              have hD : va_D A (oW cq S_67) := hD1.weaken (fun _ _ _ h => hFc _ h)
              clear hP1 hK1 hD1 hk1 hz1 hvm ht hFc
              obtain ⟨hIS_67, XS_67⟩ := w_65
              have X_68 : oX [803, 804, 805, 2063] Z S_67 := oX.st X_62 XS_67 (by decide)
              obtain ⟨x_69, ex_69⟩ : ∃ zq : Int32, y_7 + 1 = zq := ⟨_, rfl⟩
              have hx_69 : x_69.toInt = y_7.toInt + 1 := (iv_to ex_69).symm.trans (ad_i rfl (by decide) (by omega) (by omega))
              refine lv_iinc (v := x_69) (lv' := [(2, .int x_69), (3, .int x_51), (0, .ref o), (1, .int x1)]) hx hb dX8_parseTerm_68 hl (k := 1) rfl ex_69 (by decide) rfl (fun ls hl => ?_)
              clear ex_69
              refine lv_goto (tgt := 7) hx hb dX8_parseTerm_71 (by decide) ?_
              exact ih (n - 1) (by omega) x_69 S_67 _ _ ls (by omega) (by omega) hIS_67 (oX.st (oX.st (oX.st (oX.st oX.rf XS_8 (by decide)) XS_54 (by decide)) XS_61 (by decide)) XS_67 (by decide)) hP hD hS (lv_sub hl [0, 2, 3] rfl)
  have kc_70 : (0 : Int32).toInt = 0 := by decide
  exact cut_6 61 0 S_4 _ _ ls (by omega) (by decide) hIS_4 oX.rf hP hD hS (lv_sub hl [0, 1, 2] rfl)
set_option maxHeartbeats 4000000 in
set_option maxRecDepth 100000 in
theorem c_X8_parseSum_1 (l : Launch) (dC : Nat → ClassId) (dI : Nat → Nat → Nat) (sz : Nat) (tL tS tG : Nat) (cq : Nat → ClassId) (Z : oS) (gI : oInv Z) (o : Nat) (to : oty Z o 8) (x1 : Int32) (hx1 : 1 ≤ x1.toInt ∧ x1.toInt ≤ 1) : Met l yX8_parseSum wsX8_parseSum ({ frames := 20, cells := 0, slots := 0, locals := 448 }) (va_Pc [.ref o, .int x1] (pcO (dC, dI) (oT cq) (oW cq Z) sz tL tS tG (oW cq Z))) (va_Qv (fun (u : oS) => oInv u ∧ oX [803, 804, 805, 2063] Z u) (fun u t => va_P (dC, dI) vwCl (oW cq u) t.heap ∧ va_K (dC, dI) vwCl (oT cq) t ∧ va_D (va_A (oW cq Z) sz) (oW cq u)) (va_A (oW cq Z) sz)) 0 0 (va_A (oW cq Z) sz) := by
  refine Met.ofW (cc := cX8_parseSum) (maxL := 4) (ret := none) (by decide) rfl ?_
  intro p e s m args below meth c s₁ B hml hv
  obtain ⟨rfl, ⟨hsz, hP, hK, hD0⟩, hZ⟩ := hv
  have hx := B.exec
  have hb := B.bytes
  have hr := B.returns
  have hts := atoms_spec (ws := wsX8_parseSum) B.pre
  have hown : s.vm.findClass RX8 = some m.cls := findClass_of_methodNamed B.named
  have hlocks := B.notSynchronized
  subst hsz
  have hD := hD0.self (sz := s.heap.size)
  generalize hAe : va_A (oW cq Z) s.heap.size = A at hD hZ ⊢
  have hA : ∀ q : Nat, s.heap.size ≤ q → A q := fun q h => by rw [← hAe]; exact Or.inr h
  have hS : va_S A s.heap s.heap [] := va_S.rf
  have hP : va_P (dC, dI) vwCl (oW cq Z) s.heap := hP
  have hl := lv_entry ([.ref o, .int x1]) (n := 4) (Nat.le_of_ble_eq_true rfl)
  rw [lg_entry_eq]
  generalize (lg_sl ([.ref o, .int x1]) ++ List.replicate (4 - (lg_sl ([.ref o, .int x1])).length) Slot.unset).toArray = ls at hl ⊢
  have hl : lv_has ls 4 [(0, .ref o), (1, .int x1)] := hl
  refine lv_aload_n hx hb dX8_parseSum_0 rfl (lv_at hl 0 rfl) ?_
  refine lv_iload_n hx hb dX8_parseSum_1 rfl (lv_at hl 1 rfl) ?_
  have hFc := o_free hD hS hA
  obtain ⟨q_1, hq_1⟩ := og (cq := cq) to.1 (oE_8 to.2)
  refine va_callv (va_runV (As := [.int x1]) (rest := []) ⟨hx, hb, hml, hown, hts⟩ (c_X8_parseTerm_1 l dC dI s.heap.size tL tS tG cq Z gI o to x1 (by omega)) (cwV 1 hts gX8_parseSum_X8_parseTerm rfl rfl rfl (by decide +kernel) ⟨(Nat.le_of_ble_eq_true rfl), (Nat.le_of_ble_eq_true rfl)⟩) (pr_VO (r := (RX8, TX8, 6)) hP hK hD q_1 8 rfl hq_1 (hZ.go hS hFc)) rfl rfl hl.1 rfl (lv_room (Nat.le_of_ble_eq_true rfl)) dX8_parseSum_2 ⟨(Nat.le_of_ble_eq_true rfl), (Nat.le_of_ble_eq_true rfl)⟩) hS (fun q _ h => hFc q h) hFc (fun u t H locs ht hvm w_2 hB hz1 hk1 hS => ?_)
  obtain ⟨S_4, rfl⟩ : ∃ z, z = u := ⟨_, rfl⟩
  obtain ⟨hP1, hK1, hD1⟩ := hB
  rw [ht] at hP1
  have hP : va_P (dC, dI) vwCl (oW cq S_4) H := hP1
  have hD : va_D A (oW cq S_4) := hD1.weaken (fun _ _ _ h => hFc _ h)
  clear hP1 hK1 hD1 hk1 hz1 hvm ht hFc
  obtain ⟨hIS_4, XS_4⟩ := w_2
  have X_5 : oX [803, 804, 805, 2063] Z S_4 := oX.st oX.rf XS_4 (by decide)
  refine lv_iconst (v := 0) hx hb dX8_parseSum_5 (by decide) ?_
  refine lv_istore_n (lv' := [(2, .int 0), (0, .ref o), (1, .int x1)]) hx hb dX8_parseSum_6 rfl hl (by decide) rfl (fun ls hl => ?_)
  have cut_6 : ∀ (n : Nat) (y_7 : Int32) (S_8 : oS) (H : Heap) (locs : List Loc) (ls : Array Slot), 60 - y_7.toInt ≤ (n : Int) → (0 ≤ y_7.toInt ∧ y_7.toInt ≤ 60) → oInv S_8 → oX [803, 804, 805, 2063] S_4 S_8 → va_P (dC, dI) vwCl (oW cq S_8) H → va_D A (oW cq S_8) → va_S A s.heap H locs → lv_has ls 4 [(2, .int y_7), (0, .ref o), (1, .int x1)] → W p l e (headSpec wsX8_parseSum { frames := 20, cells := 0, slots := 0, locals := 448 }).room s m #[Value.ref o, Value.int x1] below meth c H locs 0 0 (MQ below (va_Qv (fun (u : oS) => oInv u ∧ oX [803, 804, 805, 2063] Z u) (fun u t => va_P (dC, dI) vwCl (oW cq u) t.heap ∧ va_K (dC, dI) vwCl (oT cq) t ∧ va_D A (oW cq u)) A) #[Value.ref o, Value.int x1] s 0 0 A) (F0 m 7 ls []) := by
    intro n
    induction n using Nat.strongRecOn with
    | ind n ih =>
      intro y_7 S_8 H locs ls hm hy_7 hIS_8 XS_8 hP hD hS hl
      have YS_8 : oX [803, 804, 805, 2063] Z S_8 := oX.st X_5 XS_8 (fun _ q => q)
      refine lv_iload_n hx hb dX8_parseSum_7 rfl (lv_at hl 0 rfl) ?_
      refine lv_bipush (v := 60) hx hb dX8_parseSum_8 (by decide) ?_
      refine lv_icmp_ge (tgt := 74) hx hb dX8_parseSum_10 (by decide) (fun c_9 => ?_) (fun c_9 => ?_)
      · have dc_9 := c_le (a := 60) (b := y_7.toInt) (by decide) rfl c_9
        exact W.vret hx hb hr (fun t ht hW => ⟨⟨S_8, rfl, ⟨hIS_8, YS_8⟩, ⟨by rw [ht]; exact hP, va_K.moved hW.alike hK, hD⟩⟩, hS.F ht⟩) hS.2.2 dX8_parseSum_74
      · have dc_9 := c_nle (a := 60) (b := y_7.toInt) (by decide) rfl c_9
        refine lv_aload_n hx hb dX8_parseSum_13 rfl (lv_at hl 1 rfl) ?_
        have t_10 : oty S_8 o 8 := (oX.ty XS_8 (oX.ty XS_4 to))
        obtain ⟨q_11, hq_11⟩ := og (cq := cq) t_10.1 (oE_8 t_10.2)
        refine va_get (D := (dC, dI)) (ci := 8) (v := .int (oI S_8 o 5)) (C := RX8) (T := TX8) (N := 6) hx hb hts in_wsX8_parseSum_X8 hown hK hP q_11 hq_11 rfl 5 (by decide) (hts (.fieldLink RX8 28 "ShipOffice$Tape" "fault" "I") iw_X8_parseSum_1) (fun _ h9 => h9) rfl dX8_parseSum_14 ?_
        refine lv_topi (fun x_12 ex_12 => ?_)
        clear ex_12
        refine lv_if_ge (tgt := 74) hx hb dX8_parseSum_17 (by decide) (fun c_13 => ?_) (fun c_13 => ?_)
        · have dc_13 := c_le (a := 0) (b := x_12.toInt) (by decide) rfl c_13
          exact W.vret hx hb hr (fun t ht hW => ⟨⟨S_8, rfl, ⟨hIS_8, YS_8⟩, ⟨by rw [ht]; exact hP, va_K.moved hW.alike hK, hD⟩⟩, hS.F ht⟩) hS.2.2 dX8_parseSum_74
        · have dc_13 := c_nle (a := 0) (b := x_12.toInt) (by decide) rfl c_13
          refine lv_aload_n hx hb dX8_parseSum_20 rfl (lv_at hl 1 rfl) ?_
          refine lv_bipush (v := 43) hx hb dX8_parseSum_21 (by decide) ?_
          have hFc : ∀ q, va_A [] H.size q → A q := pu_free hS hA
          refine va_calli (va_runV (As := [.int 43]) (rest := []) ⟨hx, hb, hml, hown, hts⟩ (c_X8_sees l dC dI H.size cq S_8 hIS_8 o t_10 43) (cwV 1 hts gX8_parseSum_X8_sees rfl rfl rfl (by decide +kernel) ⟨(Nat.le_of_ble_eq_true rfl), (Nat.le_of_ble_eq_true rfl)⟩) (pr_V (r := (RX8, TX8, 6)) hP hK hD q_11 8 rfl hq_11) rfl rfl hl.1 rfl (lv_room (Nat.le_of_ble_eq_true rfl)) dX8_parseSum_23 ⟨(Nat.le_of_ble_eq_true rfl), (Nat.le_of_ble_eq_true rfl)⟩) hS (fun q _ h => hFc q h) hFc (fun r_15 u t H locs ht hvm w_14 hB hz1 hk1 hS => ?_)
          have hP := pu_keep hP hk1
          clear hk1 hz1 hvm hB ht hFc
          obtain ⟨hb_16, hx_17⟩ := w_14
          refine lv_if_ne (tgt := 38) hx hb dX8_parseSum_26 (by decide) (fun c_18 => ?_) (fun c_18 => ?_)
          · have dc_18 := c_ne (a := r_15.toInt) (b := 0) rfl (by decide) c_18
            have hi_19 := Or.resolve_left hx_17 c_18
            refine lv_aload_n hx hb dX8_parseSum_38 rfl (lv_at hl 1 rfl) ?_
            obtain ⟨b_20, hb_20⟩ := oInv.nn (i := 0) hIS_8 t_10 rfl
            refine va_get (D := (dC, dI)) (ci := 8) (v := .ref b_20) (C := RX8) (T := TX8) (N := 6) hx hb hts in_wsX8_parseSum_X8 hown hK hP q_11 hq_11 rfl 0 (by decide) (hts (.fieldLink RX8 9 "ShipOffice$Tape" "bytes" "[I") iw_X8_parseSum_2) (fun _ h9 => h9) (o_rd hb_20) dX8_parseSum_39 ?_
            have tb_20 : oty S_8 b_20 160 := oInv.rd hIS_8 t_10.2 hb_20 rfl rfl
            refine lv_aload_n hx hb dX8_parseSum_42 rfl (lv_at hl 1 rfl) ?_
            refine va_get (D := (dC, dI)) (ci := 8) (v := .int (oI S_8 o 4)) (C := RX8) (T := TX8) (N := 6) hx hb hts in_wsX8_parseSum_X8 hown hK hP q_11 hq_11 rfl 4 (by decide) (hts (.fieldLink RX8 22 "ShipOffice$Tape" "at" "I") iw_X8_parseSum_3) (fun _ h9 => h9) rfl dX8_parseSum_43 ?_
            refine lv_topi (fun x_21 ex_21 => ?_)
            have hx_21 : 0 ≤ x_21.toInt ∧ x_21.toInt ≤ 60 := iv_of ex_21 (oInv.iv hIS_8 t_10.2 rfl rfl)
            have gx_21 : x_21.toInt = (oI S_8 o 4).toInt := iv_to ex_21
            clear ex_21
            obtain ⟨q_22, hq_22⟩ := og (cq := cq) tb_20.1 (oE_a1 (n := 60) tb_20.2 (by decide))
            refine va_iald hx hb hK hP q_22 0 hq_22 rfl (vp_in_iff.mpr (by omega)) dX8_parseSum_46 ?_
            refine lv_topi (fun x_23 ex_23 => ?_)
            clear ex_23
            refine lv_istore_n (lv' := [(3, .int x_23), (2, .int y_7), (0, .ref o), (1, .int x1)]) hx hb dX8_parseSum_47 rfl hl (by decide) rfl (fun ls hl => ?_)
            refine lv_aload_n hx hb dX8_parseSum_48 rfl (lv_at hl 2 rfl) ?_
            refine lv_dup hx hb dX8_parseSum_49 rfl ?_
            refine va_get (D := (dC, dI)) (ci := 8) (v := .int (oI S_8 o 4)) (C := RX8) (T := TX8) (N := 6) hx hb hts in_wsX8_parseSum_X8 hown hK hP q_11 hq_11 rfl 4 (by decide) (hts (.fieldLink RX8 22 "ShipOffice$Tape" "at" "I") iw_X8_parseSum_3) (fun _ h9 => h9) rfl dX8_parseSum_50 ?_
            refine lv_topi (fun x_24 ex_24 => ?_)
            have hx_24 : 0 ≤ x_24.toInt ∧ x_24.toInt ≤ 60 := iv_of ex_24 (oInv.iv hIS_8 t_10.2 rfl rfl)
            have gx_24 : x_24.toInt = (oI S_8 o 4).toInt := iv_to ex_24
            clear ex_24
            refine lv_iconst (v := 1) hx hb dX8_parseSum_53 (by decide) ?_
            refine lv_iadd hx hb dX8_parseSum_54 ?_
            refine lv_topi (fun x_25 ex_25 => ?_)
            have hx_25 : x_25.toInt = x_24.toInt + 1 := (iv_to ex_25).trans (ad_i rfl (by decide) (by omega) (by omega))
            clear ex_25
            refine va_put (D := (dC, dI)) (ci := 8) (v := .int x_25) (ty := .int) (C := RX8) (T := TX8) (N := 6) hx hb hts in_wsX8_parseSum_X8 tyX8 tyX8_ok nmX8 hown hK hP hD hS q_11 hq_11 rfl 4 (by decide) (hts (.fieldLink RX8 22 "ShipOffice$Tape" "at" "I") iw_X8_parseSum_3) (fun _ h9 => h9) rfl (by decide +kernel) rfl rfl (Nat.le_of_ble_eq_true rfl) dX8_parseSum_55 (fun H locs hP1 hD1 hS => ?_)
            obtain ⟨S_26, eS_26⟩ : ∃ zq, zq = setI S_8 o 4 x_25 := ⟨_, rfl⟩
            have hP : va_P (dC, dI) vwCl (oW cq S_26) H := by rw [eS_26]; exact cP (oset t_10.1 hq_11 hD rfl (he_8_4 t_10.2) neI) hP1
            have hD : va_D A (oW cq S_26) := by rw [eS_26]; exact cD (oset t_10.1 hq_11 hD rfl (he_8_4 t_10.2) neI) hD1
            clear hP1 hD1
            have hIS_26 : oInv S_26 := by rw [eS_26]; exact oInv.I0 (k := 8) (lo := 0) (hi := 60) hIS_8 t_10.2 (by decide) rfl rfl rfl (by omega)
            have XS_26 : oX [804] S_8 S_26 := by rw [eS_26]; exact oX.I (k := 8) (key := 804) t_10.2 rfl (List.mem_singleton.mpr rfl)
            have X_27 : oX [803, 804, 805, 2063] Z S_26 := oX.st YS_8 XS_26 (by decide)
            have g_28 : (oI S_26 o 4).toInt = x_25.toInt := by rw [eS_26, setI_same]
            refine lv_aload_n hx hb dX8_parseSum_58 rfl (lv_at hl 2 rfl) ?_
            refine lv_iload_n hx hb dX8_parseSum_59 rfl (lv_at hl 3 rfl) ?_
            have t_29 : oty S_26 o 8 := (oX.ty XS_26 t_10)
            have hFc := o_free hD hS hA
            obtain ⟨q_30, hq_30⟩ := og (cq := cq) t_29.1 (oE_8 t_29.2)
            refine va_callv (va_runV (As := [.int x1]) (rest := []) ⟨hx, hb, hml, hown, hts⟩ (c_X8_parseTerm_1 l dC dI H.size tL tS tG cq S_26 hIS_26 o t_29 x1 (by omega)) (cwV 1 hts gX8_parseSum_X8_parseTerm rfl rfl rfl (by decide +kernel) ⟨(Nat.le_of_ble_eq_true rfl), (Nat.le_of_ble_eq_true rfl)⟩) (pr_VO (r := (RX8, TX8, 6)) hP hK hD q_30 8 rfl hq_30 (hZ.go hS hFc)) rfl rfl hl.1 rfl (lv_room (Nat.le_of_ble_eq_true rfl)) dX8_parseSum_60 ⟨(Nat.le_of_ble_eq_true rfl), (Nat.le_of_ble_eq_true rfl)⟩) hS (fun q _ h => hFc q h) hFc (fun u t H locs ht hvm w_31 hB hz1 hk1 hS => ?_)
            obtain ⟨S_33, rfl⟩ : ∃ z, z = u := ⟨_, rfl⟩
            obtain ⟨hP1, hK1, hD1⟩ := hB
            rw [ht] at hP1
            have hP : va_P (dC, dI) vwCl (oW cq S_33) H := hP1
            have hD : va_D A (oW cq S_33) := hD1.weaken (fun _ _ _ h => hFc _ h)
            clear hP1 hK1 hD1 hk1 hz1 hvm ht hFc
            obtain ⟨hIS_33, XS_33⟩ := w_31
            have X_34 : oX [803, 804, 805, 2063] Z S_33 := oX.st X_27 XS_33 (by decide)
            refine lv_aload_n hx hb dX8_parseSum_63 rfl (lv_at hl 2 rfl) ?_
            refine lv_iload_n hx hb dX8_parseSum_64 rfl (lv_at hl 0 rfl) ?_
            have t_35 : oty S_33 o 8 := (oX.ty XS_33 t_29)
            have hFc := o_free hD hS hA
            obtain ⟨q_36, hq_36⟩ := og (cq := cq) t_35.1 (oE_8 t_35.2)
            refine va_callv (va_runV (As := [.int x_23]) (rest := []) ⟨hx, hb, hml, hown, hts⟩ (c_X8_emitSign l dC dI H.size tL tS tG cq S_33 hIS_33 o t_35 x_23) (cwV 1 hts gX8_parseSum_X8_emitSign rfl rfl rfl (by decide +kernel) ⟨(Nat.le_of_ble_eq_true rfl), (Nat.le_of_ble_eq_true rfl)⟩) (pr_VO (r := (RX8, TX8, 6)) hP hK hD q_36 8 rfl hq_36 (hZ.go hS hFc)) rfl rfl hl.1 rfl (lv_room (Nat.le_of_ble_eq_true rfl)) dX8_parseSum_65 ⟨(Nat.le_of_ble_eq_true rfl), (Nat.le_of_ble_eq_true rfl)⟩) hS (fun q _ h => hFc q h) hFc (fun u t H locs ht hvm w_37 hB hz1 hk1 hS => ?_)
            obtain ⟨S_39, rfl⟩ : ∃ z, z = u := ⟨_, rfl⟩
            obtain ⟨hP1, hK1, hD1⟩ := hB
            rw [ht] at hP1
            have hP : va_P (dC, dI) vwCl (oW cq S_39) H := hP1
            have hD : va_D A (oW cq S_39) := hD1.weaken (fun _ _ _ h => hFc _ h)
            clear hP1 hK1 hD1 hk1 hz1 hvm ht hFc
            obtain ⟨hIS_39, XS_39⟩ := w_37
            have X_40 : oX [803, 804, 805, 2063] Z S_39 := oX.st X_34 XS_39 (by decide)
            obtain ⟨x_41, ex_41⟩ : ∃ zq : Int32, y_7 + 1 = zq := ⟨_, rfl⟩
            have hx_41 : x_41.toInt = y_7.toInt + 1 := (iv_to ex_41).symm.trans (ad_i rfl (by decide) (by omega) (by omega))
            refine lv_iinc (v := x_41) (lv' := [(2, .int x_41), (3, .int x_23), (0, .ref o), (1, .int x1)]) hx hb dX8_parseSum_68 hl (k := 1) rfl ex_41 (by decide) rfl (fun ls hl => ?_)
            clear ex_41
            refine lv_goto (tgt := 7) hx hb dX8_parseSum_71 (by decide) ?_
            exact ih (n - 1) (by omega) x_41 S_39 _ _ ls (by omega) (by omega) hIS_39 (oX.st (oX.st (oX.st (oX.st oX.rf XS_8 (by decide)) XS_26 (by decide)) XS_33 (by decide)) XS_39 (by decide)) hP hD hS (lv_sub hl [0, 2, 3] rfl)
          · have dc_18 := c_eq (a := r_15.toInt) (b := 0) rfl (by decide) c_18
            refine lv_aload_n hx hb dX8_parseSum_29 rfl (lv_at hl 1 rfl) ?_
            refine lv_bipush (v := 45) hx hb dX8_parseSum_30 (by decide) ?_
            have hFc : ∀ q, va_A [] H.size q → A q := pu_free hS hA
            refine va_calli (va_runV (As := [.int 45]) (rest := []) ⟨hx, hb, hml, hown, hts⟩ (c_X8_sees l dC dI H.size cq S_8 hIS_8 o t_10 45) (cwV 1 hts gX8_parseSum_X8_sees rfl rfl rfl (by decide +kernel) ⟨(Nat.le_of_ble_eq_true rfl), (Nat.le_of_ble_eq_true rfl)⟩) (pr_V (r := (RX8, TX8, 6)) hP hK hD q_11 8 rfl hq_11) rfl rfl hl.1 rfl (lv_room (Nat.le_of_ble_eq_true rfl)) dX8_parseSum_32 ⟨(Nat.le_of_ble_eq_true rfl), (Nat.le_of_ble_eq_true rfl)⟩) hS (fun q _ h => hFc q h) hFc (fun r_43 u t H locs ht hvm w_42 hB hz1 hk1 hS => ?_)
            have hP := pu_keep hP hk1
            clear hk1 hz1 hvm hB ht hFc
            obtain ⟨hb_44, hx_45⟩ := w_42
            refine lv_if_eq (tgt := 74) hx hb dX8_parseSum_35 (by decide) (fun c_46 => ?_) (fun c_46 => ?_)
            · have dc_46 := c_eq (a := r_43.toInt) (b := 0) rfl (by decide) c_46
              exact W.vret hx hb hr (fun t ht hW => ⟨⟨S_8, rfl, ⟨hIS_8, YS_8⟩, ⟨by rw [ht]; exact hP, va_K.moved hW.alike hK, hD⟩⟩, hS.F ht⟩) hS.2.2 dX8_parseSum_74
            · have dc_46 := c_ne (a := r_43.toInt) (b := 0) rfl (by decide) c_46
              have hi_47 := Or.resolve_left hx_45 c_46
              refine lv_aload_n hx hb dX8_parseSum_38 rfl (lv_at hl 1 rfl) ?_
              obtain ⟨b_48, hb_48⟩ := oInv.nn (i := 0) hIS_8 t_10 rfl
              refine va_get (D := (dC, dI)) (ci := 8) (v := .ref b_48) (C := RX8) (T := TX8) (N := 6) hx hb hts in_wsX8_parseSum_X8 hown hK hP q_11 hq_11 rfl 0 (by decide) (hts (.fieldLink RX8 9 "ShipOffice$Tape" "bytes" "[I") iw_X8_parseSum_2) (fun _ h9 => h9) (o_rd hb_48) dX8_parseSum_39 ?_
              have tb_48 : oty S_8 b_48 160 := oInv.rd hIS_8 t_10.2 hb_48 rfl rfl
              refine lv_aload_n hx hb dX8_parseSum_42 rfl (lv_at hl 1 rfl) ?_
              refine va_get (D := (dC, dI)) (ci := 8) (v := .int (oI S_8 o 4)) (C := RX8) (T := TX8) (N := 6) hx hb hts in_wsX8_parseSum_X8 hown hK hP q_11 hq_11 rfl 4 (by decide) (hts (.fieldLink RX8 22 "ShipOffice$Tape" "at" "I") iw_X8_parseSum_3) (fun _ h9 => h9) rfl dX8_parseSum_43 ?_
              refine lv_topi (fun x_49 ex_49 => ?_)
              have hx_49 : 0 ≤ x_49.toInt ∧ x_49.toInt ≤ 60 := iv_of ex_49 (oInv.iv hIS_8 t_10.2 rfl rfl)
              have gx_49 : x_49.toInt = (oI S_8 o 4).toInt := iv_to ex_49
              clear ex_49
              obtain ⟨q_50, hq_50⟩ := og (cq := cq) tb_48.1 (oE_a1 (n := 60) tb_48.2 (by decide))
              refine va_iald hx hb hK hP q_50 0 hq_50 rfl (vp_in_iff.mpr (by omega)) dX8_parseSum_46 ?_
              refine lv_topi (fun x_51 ex_51 => ?_)
              clear ex_51
              refine lv_istore_n (lv' := [(3, .int x_51), (2, .int y_7), (0, .ref o), (1, .int x1)]) hx hb dX8_parseSum_47 rfl hl (by decide) rfl (fun ls hl => ?_)
              refine lv_aload_n hx hb dX8_parseSum_48 rfl (lv_at hl 2 rfl) ?_
              refine lv_dup hx hb dX8_parseSum_49 rfl ?_
              refine va_get (D := (dC, dI)) (ci := 8) (v := .int (oI S_8 o 4)) (C := RX8) (T := TX8) (N := 6) hx hb hts in_wsX8_parseSum_X8 hown hK hP q_11 hq_11 rfl 4 (by decide) (hts (.fieldLink RX8 22 "ShipOffice$Tape" "at" "I") iw_X8_parseSum_3) (fun _ h9 => h9) rfl dX8_parseSum_50 ?_
              refine lv_topi (fun x_52 ex_52 => ?_)
              have hx_52 : 0 ≤ x_52.toInt ∧ x_52.toInt ≤ 60 := iv_of ex_52 (oInv.iv hIS_8 t_10.2 rfl rfl)
              have gx_52 : x_52.toInt = (oI S_8 o 4).toInt := iv_to ex_52
              clear ex_52
              refine lv_iconst (v := 1) hx hb dX8_parseSum_53 (by decide) ?_
              refine lv_iadd hx hb dX8_parseSum_54 ?_
              refine lv_topi (fun x_53 ex_53 => ?_)
              have hx_53 : x_53.toInt = x_52.toInt + 1 := (iv_to ex_53).trans (ad_i rfl (by decide) (by omega) (by omega))
              clear ex_53
              refine va_put (D := (dC, dI)) (ci := 8) (v := .int x_53) (ty := .int) (C := RX8) (T := TX8) (N := 6) hx hb hts in_wsX8_parseSum_X8 tyX8 tyX8_ok nmX8 hown hK hP hD hS q_11 hq_11 rfl 4 (by decide) (hts (.fieldLink RX8 22 "ShipOffice$Tape" "at" "I") iw_X8_parseSum_3) (fun _ h9 => h9) rfl (by decide +kernel) rfl rfl (Nat.le_of_ble_eq_true rfl) dX8_parseSum_55 (fun H locs hP1 hD1 hS => ?_)
              obtain ⟨S_54, eS_54⟩ : ∃ zq, zq = setI S_8 o 4 x_53 := ⟨_, rfl⟩
              have hP : va_P (dC, dI) vwCl (oW cq S_54) H := by rw [eS_54]; exact cP (oset t_10.1 hq_11 hD rfl (he_8_4 t_10.2) neI) hP1
              have hD : va_D A (oW cq S_54) := by rw [eS_54]; exact cD (oset t_10.1 hq_11 hD rfl (he_8_4 t_10.2) neI) hD1
              clear hP1 hD1
              have hIS_54 : oInv S_54 := by rw [eS_54]; exact oInv.I0 (k := 8) (lo := 0) (hi := 60) hIS_8 t_10.2 (by decide) rfl rfl rfl (by omega)
              have XS_54 : oX [804] S_8 S_54 := by rw [eS_54]; exact oX.I (k := 8) (key := 804) t_10.2 rfl (List.mem_singleton.mpr rfl)
              have X_55 : oX [803, 804, 805, 2063] Z S_54 := oX.st YS_8 XS_54 (by decide)
              have g_56 : (oI S_54 o 4).toInt = x_53.toInt := by rw [eS_54, setI_same]
              refine lv_aload_n hx hb dX8_parseSum_58 rfl (lv_at hl 2 rfl) ?_
              refine lv_iload_n hx hb dX8_parseSum_59 rfl (lv_at hl 3 rfl) ?_
              have t_57 : oty S_54 o 8 := (oX.ty XS_54 t_10)
              have hFc := o_free hD hS hA
              obtain ⟨q_58, hq_58⟩ := og (cq := cq) t_57.1 (oE_8 t_57.2)
              refine va_callv (va_runV (As := [.int x1]) (rest := []) ⟨hx, hb, hml, hown, hts⟩ (c_X8_parseTerm_1 l dC dI H.size tL tS tG cq S_54 hIS_54 o t_57 x1 (by omega)) (cwV 1 hts gX8_parseSum_X8_parseTerm rfl rfl rfl (by decide +kernel) ⟨(Nat.le_of_ble_eq_true rfl), (Nat.le_of_ble_eq_true rfl)⟩) (pr_VO (r := (RX8, TX8, 6)) hP hK hD q_58 8 rfl hq_58 (hZ.go hS hFc)) rfl rfl hl.1 rfl (lv_room (Nat.le_of_ble_eq_true rfl)) dX8_parseSum_60 ⟨(Nat.le_of_ble_eq_true rfl), (Nat.le_of_ble_eq_true rfl)⟩) hS (fun q _ h => hFc q h) hFc (fun u t H locs ht hvm w_59 hB hz1 hk1 hS => ?_)
              obtain ⟨S_61, rfl⟩ : ∃ z, z = u := ⟨_, rfl⟩
              obtain ⟨hP1, hK1, hD1⟩ := hB
              rw [ht] at hP1
              have hP : va_P (dC, dI) vwCl (oW cq S_61) H := hP1
              have hD : va_D A (oW cq S_61) := hD1.weaken (fun _ _ _ h => hFc _ h)
              clear hP1 hK1 hD1 hk1 hz1 hvm ht hFc
              obtain ⟨hIS_61, XS_61⟩ := w_59
              have X_62 : oX [803, 804, 805, 2063] Z S_61 := oX.st X_55 XS_61 (by decide)
              refine lv_aload_n hx hb dX8_parseSum_63 rfl (lv_at hl 2 rfl) ?_
              refine lv_iload_n hx hb dX8_parseSum_64 rfl (lv_at hl 0 rfl) ?_
              have t_63 : oty S_61 o 8 := (oX.ty XS_61 t_57)
              have hFc := o_free hD hS hA
              obtain ⟨q_64, hq_64⟩ := og (cq := cq) t_63.1 (oE_8 t_63.2)
              refine va_callv (va_runV (As := [.int x_51]) (rest := []) ⟨hx, hb, hml, hown, hts⟩ (c_X8_emitSign l dC dI H.size tL tS tG cq S_61 hIS_61 o t_63 x_51) (cwV 1 hts gX8_parseSum_X8_emitSign rfl rfl rfl (by decide +kernel) ⟨(Nat.le_of_ble_eq_true rfl), (Nat.le_of_ble_eq_true rfl)⟩) (pr_VO (r := (RX8, TX8, 6)) hP hK hD q_64 8 rfl hq_64 (hZ.go hS hFc)) rfl rfl hl.1 rfl (lv_room (Nat.le_of_ble_eq_true rfl)) dX8_parseSum_65 ⟨(Nat.le_of_ble_eq_true rfl), (Nat.le_of_ble_eq_true rfl)⟩) hS (fun q _ h => hFc q h) hFc (fun u t H locs ht hvm w_65 hB hz1 hk1 hS => ?_)
              obtain ⟨S_67, rfl⟩ : ∃ z, z = u := ⟨_, rfl⟩
              obtain ⟨hP1, hK1, hD1⟩ := hB
              rw [ht] at hP1
              have hP : va_P (dC, dI) vwCl (oW cq S_67) H := hP1
              have hD : va_D A (oW cq S_67) := hD1.weaken (fun _ _ _ h => hFc _ h)
              clear hP1 hK1 hD1 hk1 hz1 hvm ht hFc
              obtain ⟨hIS_67, XS_67⟩ := w_65
              have X_68 : oX [803, 804, 805, 2063] Z S_67 := oX.st X_62 XS_67 (by decide)
              obtain ⟨x_69, ex_69⟩ : ∃ zq : Int32, y_7 + 1 = zq := ⟨_, rfl⟩
              have hx_69 : x_69.toInt = y_7.toInt + 1 := (iv_to ex_69).symm.trans (ad_i rfl (by decide) (by omega) (by omega))
              refine lv_iinc (v := x_69) (lv' := [(2, .int x_69), (3, .int x_51), (0, .ref o), (1, .int x1)]) hx hb dX8_parseSum_68 hl (k := 1) rfl ex_69 (by decide) rfl (fun ls hl => ?_)
              clear ex_69
              refine lv_goto (tgt := 7) hx hb dX8_parseSum_71 (by decide) ?_
              exact ih (n - 1) (by omega) x_69 S_67 _ _ ls (by omega) (by omega) hIS_67 (oX.st (oX.st (oX.st (oX.st oX.rf XS_8 (by decide)) XS_54 (by decide)) XS_61 (by decide)) XS_67 (by decide)) hP hD hS (lv_sub hl [0, 2, 3] rfl)
  have kc_70 : (0 : Int32).toInt = 0 := by decide
  exact cut_6 61 0 S_4 _ _ ls (by omega) (by decide) hIS_4 oX.rf hP hD hS (lv_sub hl [0, 1, 2] rfl)
set_option maxHeartbeats 4000000 in
set_option maxRecDepth 100000 in
theorem c_X8_parseBracket_1 (l : Launch) (dC : Nat → ClassId) (dI : Nat → Nat → Nat) (sz : Nat) (tL tS tG : Nat) (cq : Nat → ClassId) (Z : oS) (gI : oInv Z) (o : Nat) (to : oty Z o 8) (x1 : Int32) (hx1 : 1 ≤ x1.toInt ∧ x1.toInt ≤ 1) : Met l yX8_parseBracket wsX8_parseBracket ({ frames := 21, cells := 0, slots := 0, locals := 471 }) (va_Pc [.ref o, .int x1] (pcO (dC, dI) (oT cq) (oW cq Z) sz tL tS tG (oW cq Z))) (va_Qv (fun (u : oS) => oInv u ∧ oX [803, 804, 805, 2063] Z u) (fun u t => va_P (dC, dI) vwCl (oW cq u) t.heap ∧ va_K (dC, dI) vwCl (oT cq) t ∧ va_D (va_A (oW cq Z) sz) (oW cq u)) (va_A (oW cq Z) sz)) 0 0 (va_A (oW cq Z) sz) := by
  refine Met.ofW (cc := cX8_parseBracket) (maxL := 3) (ret := none) (by decide) rfl ?_
  intro p e s m args below meth c s₁ B hml hv
  obtain ⟨rfl, ⟨hsz, hP, hK, hD0⟩, hZ⟩ := hv
  have hx := B.exec
  have hb := B.bytes
  have hr := B.returns
  have hts := atoms_spec (ws := wsX8_parseBracket) B.pre
  have hown : s.vm.findClass RX8 = some m.cls := findClass_of_methodNamed B.named
  have hlocks := B.notSynchronized
  subst hsz
  have hD := hD0.self (sz := s.heap.size)
  generalize hAe : va_A (oW cq Z) s.heap.size = A at hD hZ ⊢
  have hA : ∀ q : Nat, s.heap.size ≤ q → A q := fun q h => by rw [← hAe]; exact Or.inr h
  have hS : va_S A s.heap s.heap [] := va_S.rf
  have hP : va_P (dC, dI) vwCl (oW cq Z) s.heap := hP
  have hl := lv_entry ([.ref o, .int x1]) (n := 3) (Nat.le_of_ble_eq_true rfl)
  rw [lg_entry_eq]
  generalize (lg_sl ([.ref o, .int x1]) ++ List.replicate (3 - (lg_sl ([.ref o, .int x1])).length) Slot.unset).toArray = ls at hl ⊢
  have hl : lv_has ls 3 [(0, .ref o), (1, .int x1)] := hl
  refine lv_aload_n hx hb dX8_parseBracket_0 rfl (lv_at hl 0 rfl) ?_
  refine lv_iload_n hx hb dX8_parseBracket_1 rfl (lv_at hl 1 rfl) ?_
  have hFc := o_free hD hS hA
  obtain ⟨q_1, hq_1⟩ := og (cq := cq) to.1 (oE_8 to.2)
  refine va_callv (va_runV (As := [.int x1]) (rest := []) ⟨hx, hb, hml, hown, hts⟩ (c_X8_parseSum_1 l dC dI s.heap.size tL tS tG cq Z gI o to x1 (by omega)) (cwV 1 hts gX8_parseBracket_X8_parseSum rfl rfl rfl (by decide +kernel) ⟨(Nat.le_of_ble_eq_true rfl), (Nat.le_of_ble_eq_true rfl)⟩) (pr_VO (r := (RX8, TX8, 6)) hP hK hD q_1 8 rfl hq_1 (hZ.go hS hFc)) rfl rfl hl.1 rfl (lv_room (Nat.le_of_ble_eq_true rfl)) dX8_parseBracket_2 ⟨(Nat.le_of_ble_eq_true rfl), (Nat.le_of_ble_eq_true rfl)⟩) hS (fun q _ h => hFc q h) hFc (fun u t H locs ht hvm w_2 hB hz1 hk1 hS => ?_)
  obtain ⟨S_4, rfl⟩ : ∃ z, z = u := ⟨_, rfl⟩
  obtain ⟨hP1, hK1, hD1⟩ := hB
  rw [ht] at hP1
  have hP : va_P (dC, dI) vwCl (oW cq S_4) H := hP1
  have hD : va_D A (oW cq S_4) := hD1.weaken (fun _ _ _ h => hFc _ h)
  clear hP1 hK1 hD1 hk1 hz1 hvm ht hFc
  obtain ⟨hIS_4, XS_4⟩ := w_2
  have X_5 : oX [803, 804, 805, 2063] Z S_4 := oX.st oX.rf XS_4 (by decide)
  refine lv_aload_n hx hb dX8_parseBracket_5 rfl (lv_at hl 0 rfl) ?_
  have t_6 : oty S_4 o 8 := (oX.ty XS_4 to)
  obtain ⟨q_7, hq_7⟩ := og (cq := cq) t_6.1 (oE_8 t_6.2)
  refine va_get (D := (dC, dI)) (ci := 8) (v := .int (oI S_4 o 5)) (C := RX8) (T := TX8) (N := 6) hx hb hts in_wsX8_parseBracket_X8 hown hK hP q_7 hq_7 rfl 5 (by decide) (hts (.fieldLink RX8 28 "ShipOffice$Tape" "fault" "I") iw_X8_parseBracket_1) (fun _ h9 => h9) rfl dX8_parseBracket_6 ?_
  refine lv_topi (fun x_8 ex_8 => ?_)
  clear ex_8
  refine lv_if_ge (tgt := 69) hx hb dX8_parseBracket_9 (by decide) (fun c_9 => ?_) (fun c_9 => ?_)
  · have dc_9 := c_le (a := 0) (b := x_8.toInt) (by decide) rfl c_9
    refine lv_aload_n hx hb dX8_parseBracket_69 rfl (lv_at hl 0 rfl) ?_
    refine va_get (D := (dC, dI)) (ci := 8) (v := .int (oI S_4 o 5)) (C := RX8) (T := TX8) (N := 6) hx hb hts in_wsX8_parseBracket_X8 hown hK hP q_7 hq_7 rfl 5 (by decide) (hts (.fieldLink RX8 28 "ShipOffice$Tape" "fault" "I") iw_X8_parseBracket_1) (fun _ h9 => h9) rfl dX8_parseBracket_70 ?_
    refine lv_topi (fun x_10 ex_10 => ?_)
    clear ex_10
    refine lv_if_ge (tgt := 98) hx hb dX8_parseBracket_73 (by decide) (fun c_11 => ?_) (fun c_11 => ?_)
    · have dc_11 := c_le (a := 0) (b := x_10.toInt) (by decide) rfl c_11
      refine lv_aload_n hx hb dX8_parseBracket_98 rfl (lv_at hl 0 rfl) ?_
      refine va_get (D := (dC, dI)) (ci := 8) (v := .int (oI S_4 o 5)) (C := RX8) (T := TX8) (N := 6) hx hb hts in_wsX8_parseBracket_X8 hown hK hP q_7 hq_7 rfl 5 (by decide) (hts (.fieldLink RX8 28 "ShipOffice$Tape" "fault" "I") iw_X8_parseBracket_1) (fun _ h9 => h9) rfl dX8_parseBracket_99 ?_
      refine lv_topi (fun x_12 ex_12 => ?_)
      clear ex_12
      refine lv_if_ge (tgt := 113) hx hb dX8_parseBracket_102 (by decide) (fun c_13 => ?_) (fun c_13 => ?_)
      · have dc_13 := c_le (a := 0) (b := x_12.toInt) (by decide) rfl c_13
        exact W.vret hx hb hr (fun t ht hW => ⟨⟨S_4, rfl, ⟨hIS_4, X_5⟩, ⟨by rw [ht]; exact hP, va_K.moved hW.alike hK, hD⟩⟩, hS.F ht⟩) hS.2.2 dX8_parseBracket_113
      · have dc_13 := c_nle (a := 0) (b := x_12.toInt) (by decide) rfl c_13
        refine lv_aload_n hx hb dX8_parseBracket_105 rfl (lv_at hl 0 rfl) ?_
        refine lv_aload_n hx hb dX8_parseBracket_106 rfl (lv_at hl 0 rfl) ?_
        refine va_get (D := (dC, dI)) (ci := 8) (v := .int (oI S_4 o 4)) (C := RX8) (T := TX8) (N := 6) hx hb hts in_wsX8_parseBracket_X8 hown hK hP q_7 hq_7 rfl 4 (by decide) (hts (.fieldLink RX8 22 "ShipOffice$Tape" "at" "I") iw_X8_parseBracket_2) (fun _ h9 => h9) rfl dX8_parseBracket_107 ?_
        refine lv_topi (fun x_14 ex_14 => ?_)
        have hx_14 : 0 ≤ x_14.toInt ∧ x_14.toInt ≤ 60 := iv_of ex_14 (oInv.iv hIS_4 t_6.2 rfl rfl)
        have gx_14 : x_14.toInt = (oI S_4 o 4).toInt := iv_to ex_14
        clear ex_14
        refine va_put (D := (dC, dI)) (ci := 8) (v := .int x_14) (ty := .int) (C := RX8) (T := TX8) (N := 6) hx hb hts in_wsX8_parseBracket_X8 tyX8 tyX8_ok nmX8 hown hK hP hD hS q_7 hq_7 rfl 5 (by decide) (hts (.fieldLink RX8 28 "ShipOffice$Tape" "fault" "I") iw_X8_parseBracket_1) (fun _ h9 => h9) rfl (by decide +kernel) rfl rfl (Nat.le_of_ble_eq_true rfl) dX8_parseBracket_110 (fun H locs hP1 hD1 hS => ?_)
        obtain ⟨S_15, eS_15⟩ : ∃ zq, zq = setI S_4 o 5 x_14 := ⟨_, rfl⟩
        have hP : va_P (dC, dI) vwCl (oW cq S_15) H := by rw [eS_15]; exact cP (oset t_6.1 hq_7 hD rfl (he_8_5 t_6.2) neI) hP1
        have hD : va_D A (oW cq S_15) := by rw [eS_15]; exact cD (oset t_6.1 hq_7 hD rfl (he_8_5 t_6.2) neI) hD1
        clear hP1 hD1
        have hIS_15 : oInv S_15 := by rw [eS_15]; exact oInv.I0 (k := 8) (lo := -2147483648) (hi := 2147483647) hIS_4 t_6.2 (by decide) rfl rfl rfl (iv_all _)
        have XS_15 : oX [805] S_4 S_15 := by rw [eS_15]; exact oX.I (k := 8) (key := 805) t_6.2 rfl (List.mem_singleton.mpr rfl)
        have X_16 : oX [803, 804, 805, 2063] Z S_15 := oX.st X_5 XS_15 (by decide)
        have g_17 : (oI S_15 o 4).toInt = (oI S_4 o 4).toInt := by rw [eS_15, setI_ne (by decide)]
        exact W.vret hx hb hr (fun t ht hW => ⟨⟨S_15, rfl, ⟨hIS_15, X_16⟩, ⟨by rw [ht]; exact hP, va_K.moved hW.alike hK, hD⟩⟩, hS.F ht⟩) hS.2.2 dX8_parseBracket_113
    · have dc_11 := c_nle (a := 0) (b := x_10.toInt) (by decide) rfl c_11
      refine lv_aload_n hx hb dX8_parseBracket_76 rfl (lv_at hl 0 rfl) ?_
      refine lv_bipush (v := 41) hx hb dX8_parseBracket_77 (by decide) ?_
      have hFc : ∀ q, va_A [] H.size q → A q := pu_free hS hA
      refine va_calli (va_runV (As := [.int 41]) (rest := []) ⟨hx, hb, hml, hown, hts⟩ (c_X8_sees l dC dI H.size cq S_4 hIS_4 o t_6 41) (cwV 1 hts gX8_parseBracket_X8_sees rfl rfl rfl (by decide +kernel) ⟨(Nat.le_of_ble_eq_true rfl), (Nat.le_of_ble_eq_true rfl)⟩) (pr_V (r := (RX8, TX8, 6)) hP hK hD q_7 8 rfl hq_7) rfl rfl hl.1 rfl (lv_room (Nat.le_of_ble_eq_true rfl)) dX8_parseBracket_79 ⟨(Nat.le_of_ble_eq_true rfl), (Nat.le_of_ble_eq_true rfl)⟩) hS (fun q _ h => hFc q h) hFc (fun r_19 u t H locs ht hvm w_18 hB hz1 hk1 hS => ?_)
      have hP := pu_keep hP hk1
      clear hk1 hz1 hvm hB ht hFc
      obtain ⟨hb_20, hx_21⟩ := w_18
      refine lv_if_eq (tgt := 98) hx hb dX8_parseBracket_82 (by decide) (fun c_22 => ?_) (fun c_22 => ?_)
      · have dc_22 := c_eq (a := r_19.toInt) (b := 0) rfl (by decide) c_22
        refine lv_aload_n hx hb dX8_parseBracket_98 rfl (lv_at hl 0 rfl) ?_
        refine va_get (D := (dC, dI)) (ci := 8) (v := .int (oI S_4 o 5)) (C := RX8) (T := TX8) (N := 6) hx hb hts in_wsX8_parseBracket_X8 hown hK hP q_7 hq_7 rfl 5 (by decide) (hts (.fieldLink RX8 28 "ShipOffice$Tape" "fault" "I") iw_X8_parseBracket_1) (fun _ h9 => h9) rfl dX8_parseBracket_99 ?_
        refine lv_topi (fun x_23 ex_23 => ?_)
        clear ex_23
        refine lv_if_ge (tgt := 113) hx hb dX8_parseBracket_102 (by decide) (fun c_24 => ?_) (fun c_24 => ?_)
        · have dc_24 := c_le (a := 0) (b := x_23.toInt) (by decide) rfl c_24
          exact W.vret hx hb hr (fun t ht hW => ⟨⟨S_4, rfl, ⟨hIS_4, X_5⟩, ⟨by rw [ht]; exact hP, va_K.moved hW.alike hK, hD⟩⟩, hS.F ht⟩) hS.2.2 dX8_parseBracket_113
        · have dc_24 := c_nle (a := 0) (b := x_23.toInt) (by decide) rfl c_24
          refine lv_aload_n hx hb dX8_parseBracket_105 rfl (lv_at hl 0 rfl) ?_
          refine lv_aload_n hx hb dX8_parseBracket_106 rfl (lv_at hl 0 rfl) ?_
          refine va_get (D := (dC, dI)) (ci := 8) (v := .int (oI S_4 o 4)) (C := RX8) (T := TX8) (N := 6) hx hb hts in_wsX8_parseBracket_X8 hown hK hP q_7 hq_7 rfl 4 (by decide) (hts (.fieldLink RX8 22 "ShipOffice$Tape" "at" "I") iw_X8_parseBracket_2) (fun _ h9 => h9) rfl dX8_parseBracket_107 ?_
          refine lv_topi (fun x_25 ex_25 => ?_)
          have hx_25 : 0 ≤ x_25.toInt ∧ x_25.toInt ≤ 60 := iv_of ex_25 (oInv.iv hIS_4 t_6.2 rfl rfl)
          have gx_25 : x_25.toInt = (oI S_4 o 4).toInt := iv_to ex_25
          clear ex_25
          refine va_put (D := (dC, dI)) (ci := 8) (v := .int x_25) (ty := .int) (C := RX8) (T := TX8) (N := 6) hx hb hts in_wsX8_parseBracket_X8 tyX8 tyX8_ok nmX8 hown hK hP hD hS q_7 hq_7 rfl 5 (by decide) (hts (.fieldLink RX8 28 "ShipOffice$Tape" "fault" "I") iw_X8_parseBracket_1) (fun _ h9 => h9) rfl (by decide +kernel) rfl rfl (Nat.le_of_ble_eq_true rfl) dX8_parseBracket_110 (fun H locs hP1 hD1 hS => ?_)
          obtain ⟨S_26, eS_26⟩ : ∃ zq, zq = setI S_4 o 5 x_25 := ⟨_, rfl⟩
          have hP : va_P (dC, dI) vwCl (oW cq S_26) H := by rw [eS_26]; exact cP (oset t_6.1 hq_7 hD rfl (he_8_5 t_6.2) neI) hP1
          have hD : va_D A (oW cq S_26) := by rw [eS_26]; exact cD (oset t_6.1 hq_7 hD rfl (he_8_5 t_6.2) neI) hD1
          clear hP1 hD1
          have hIS_26 : oInv S_26 := by rw [eS_26]; exact oInv.I0 (k := 8) (lo := -2147483648) (hi := 2147483647) hIS_4 t_6.2 (by decide) rfl rfl rfl (iv_all _)
          have XS_26 : oX [805] S_4 S_26 := by rw [eS_26]; exact oX.I (k := 8) (key := 805) t_6.2 rfl (List.mem_singleton.mpr rfl)
          have X_27 : oX [803, 804, 805, 2063] Z S_26 := oX.st X_5 XS_26 (by decide)
          have g_28 : (oI S_26 o 4).toInt = (oI S_4 o 4).toInt := by rw [eS_26, setI_ne (by decide)]
          exact W.vret hx hb hr (fun t ht hW => ⟨⟨S_26, rfl, ⟨hIS_26, X_27⟩, ⟨by rw [ht]; exact hP, va_K.moved hW.alike hK, hD⟩⟩, hS.F ht⟩) hS.2.2 dX8_parseBracket_113
      · have dc_22 := c_ne (a := r_19.toInt) (b := 0) rfl (by decide) c_22
        have hi_29 := Or.resolve_left hx_21 c_22
        refine lv_aload_n hx hb dX8_parseBracket_85 rfl (lv_at hl 0 rfl) ?_
        refine lv_dup hx hb dX8_parseBracket_86 rfl ?_
        refine va_get (D := (dC, dI)) (ci := 8) (v := .int (oI S_4 o 4)) (C := RX8) (T := TX8) (N := 6) hx hb hts in_wsX8_parseBracket_X8 hown hK hP q_7 hq_7 rfl 4 (by decide) (hts (.fieldLink RX8 22 "ShipOffice$Tape" "at" "I") iw_X8_parseBracket_2) (fun _ h9 => h9) rfl dX8_parseBracket_87 ?_
        refine lv_topi (fun x_30 ex_30 => ?_)
        have hx_30 : 0 ≤ x_30.toInt ∧ x_30.toInt ≤ 60 := iv_of ex_30 (oInv.iv hIS_4 t_6.2 rfl rfl)
        have gx_30 : x_30.toInt = (oI S_4 o 4).toInt := iv_to ex_30
        clear ex_30
        refine lv_iconst (v := 1) hx hb dX8_parseBracket_90 (by decide) ?_
        refine lv_iadd hx hb dX8_parseBracket_91 ?_
        refine lv_topi (fun x_31 ex_31 => ?_)
        have hx_31 : x_31.toInt = x_30.toInt + 1 := (iv_to ex_31).trans (ad_i rfl (by decide) (by omega) (by omega))
        clear ex_31
        refine va_put (D := (dC, dI)) (ci := 8) (v := .int x_31) (ty := .int) (C := RX8) (T := TX8) (N := 6) hx hb hts in_wsX8_parseBracket_X8 tyX8 tyX8_ok nmX8 hown hK hP hD hS q_7 hq_7 rfl 4 (by decide) (hts (.fieldLink RX8 22 "ShipOffice$Tape" "at" "I") iw_X8_parseBracket_2) (fun _ h9 => h9) rfl (by decide +kernel) rfl rfl (Nat.le_of_ble_eq_true rfl) dX8_parseBracket_92 (fun H locs hP1 hD1 hS => ?_)
        obtain ⟨S_32, eS_32⟩ : ∃ zq, zq = setI S_4 o 4 x_31 := ⟨_, rfl⟩
        have hP : va_P (dC, dI) vwCl (oW cq S_32) H := by rw [eS_32]; exact cP (oset t_6.1 hq_7 hD rfl (he_8_4 t_6.2) neI) hP1
        have hD : va_D A (oW cq S_32) := by rw [eS_32]; exact cD (oset t_6.1 hq_7 hD rfl (he_8_4 t_6.2) neI) hD1
        clear hP1 hD1
        have hIS_32 : oInv S_32 := by rw [eS_32]; exact oInv.I0 (k := 8) (lo := 0) (hi := 60) hIS_4 t_6.2 (by decide) rfl rfl rfl (by omega)
        have XS_32 : oX [804] S_4 S_32 := by rw [eS_32]; exact oX.I (k := 8) (key := 804) t_6.2 rfl (List.mem_singleton.mpr rfl)
        have X_33 : oX [803, 804, 805, 2063] Z S_32 := oX.st X_5 XS_32 (by decide)
        have g_34 : (oI S_32 o 4).toInt = x_31.toInt := by rw [eS_32, setI_same]
        refine lv_goto (tgt := 113) hx hb dX8_parseBracket_95 (by decide) ?_
        exact W.vret hx hb hr (fun t ht hW => ⟨⟨S_32, rfl, ⟨hIS_32, X_33⟩, ⟨by rw [ht]; exact hP, va_K.moved hW.alike hK, hD⟩⟩, hS.F ht⟩) hS.2.2 dX8_parseBracket_113
  · have dc_9 := c_nle (a := 0) (b := x_8.toInt) (by decide) rfl c_9
    refine lv_aload_n hx hb dX8_parseBracket_12 rfl (lv_at hl 0 rfl) ?_
    refine lv_bipush (v := 60) hx hb dX8_parseBracket_13 (by decide) ?_
    have hFc : ∀ q, va_A [] H.size q → A q := pu_free hS hA
    refine va_calli (va_runV (As := [.int 60]) (rest := []) ⟨hx, hb, hml, hown, hts⟩ (c_X8_sees l dC dI H.size cq S_4 hIS_4 o t_6 60) (cwV 1 hts gX8_parseBracket_X8_sees rfl rfl rfl (by decide +kernel) ⟨(Nat.le_of_ble_eq_true rfl), (Nat.le_of_ble_eq_true rfl)⟩) (pr_V (r := (RX8, TX8, 6)) hP hK hD q_7 8 rfl hq_7) rfl rfl hl.1 rfl (lv_room (Nat.le_of_ble_eq_true rfl)) dX8_parseBracket_15 ⟨(Nat.le_of_ble_eq_true rfl), (Nat.le_of_ble_eq_true rfl)⟩) hS (fun q _ h => hFc q h) hFc (fun r_36 u t H locs ht hvm w_35 hB hz1 hk1 hS => ?_)
    have hP := pu_keep hP hk1
    clear hk1 hz1 hvm hB ht hFc
    obtain ⟨hb_37, hx_38⟩ := w_35
    refine lv_if_ne (tgt := 39) hx hb dX8_parseBracket_18 (by decide) (fun c_39 => ?_) (fun c_39 => ?_)
    · have dc_39 := c_ne (a := r_36.toInt) (b := 0) rfl (by decide) c_39
      have hi_40 := Or.resolve_left hx_38 c_39
      refine lv_aload_n hx hb dX8_parseBracket_39 rfl (lv_at hl 0 rfl) ?_
      obtain ⟨b_41, hb_41⟩ := oInv.nn (i := 0) hIS_4 t_6 rfl
      refine va_get (D := (dC, dI)) (ci := 8) (v := .ref b_41) (C := RX8) (T := TX8) (N := 6) hx hb hts in_wsX8_parseBracket_X8 hown hK hP q_7 hq_7 rfl 0 (by decide) (hts (.fieldLink RX8 9 "ShipOffice$Tape" "bytes" "[I") iw_X8_parseBracket_3) (fun _ h9 => h9) (o_rd hb_41) dX8_parseBracket_40 ?_
      have tb_41 : oty S_4 b_41 160 := oInv.rd hIS_4 t_6.2 hb_41 rfl rfl
      refine lv_aload_n hx hb dX8_parseBracket_43 rfl (lv_at hl 0 rfl) ?_
      refine va_get (D := (dC, dI)) (ci := 8) (v := .int (oI S_4 o 4)) (C := RX8) (T := TX8) (N := 6) hx hb hts in_wsX8_parseBracket_X8 hown hK hP q_7 hq_7 rfl 4 (by decide) (hts (.fieldLink RX8 22 "ShipOffice$Tape" "at" "I") iw_X8_parseBracket_2) (fun _ h9 => h9) rfl dX8_parseBracket_44 ?_
      refine lv_topi (fun x_42 ex_42 => ?_)
      have hx_42 : 0 ≤ x_42.toInt ∧ x_42.toInt ≤ 60 := iv_of ex_42 (oInv.iv hIS_4 t_6.2 rfl rfl)
      have gx_42 : x_42.toInt = (oI S_4 o 4).toInt := iv_to ex_42
      clear ex_42
      obtain ⟨q_43, hq_43⟩ := og (cq := cq) tb_41.1 (oE_a1 (n := 60) tb_41.2 (by decide))
      refine va_iald hx hb hK hP q_43 0 hq_43 rfl (vp_in_iff.mpr (by omega)) dX8_parseBracket_47 ?_
      refine lv_topi (fun x_44 ex_44 => ?_)
      clear ex_44
      refine lv_istore_n (lv' := [(2, .int x_44), (0, .ref o), (1, .int x1)]) hx hb dX8_parseBracket_48 rfl hl (by decide) rfl (fun ls hl => ?_)
      refine lv_aload_n hx hb dX8_parseBracket_49 rfl (lv_at hl 1 rfl) ?_
      refine lv_dup hx hb dX8_parseBracket_50 rfl ?_
      refine va_get (D := (dC, dI)) (ci := 8) (v := .int (oI S_4 o 4)) (C := RX8) (T := TX8) (N := 6) hx hb hts in_wsX8_parseBracket_X8 hown hK hP q_7 hq_7 rfl 4 (by decide) (hts (.fieldLink RX8 22 "ShipOffice$Tape" "at" "I") iw_X8_parseBracket_2) (fun _ h9 => h9) rfl dX8_parseBracket_51 ?_
      refine lv_topi (fun x_45 ex_45 => ?_)
      have hx_45 : 0 ≤ x_45.toInt ∧ x_45.toInt ≤ 60 := iv_of ex_45 (oInv.iv hIS_4 t_6.2 rfl rfl)
      have gx_45 : x_45.toInt = (oI S_4 o 4).toInt := iv_to ex_45
      clear ex_45
      refine lv_iconst (v := 1) hx hb dX8_parseBracket_54 (by decide) ?_
      refine lv_iadd hx hb dX8_parseBracket_55 ?_
      refine lv_topi (fun x_46 ex_46 => ?_)
      have hx_46 : x_46.toInt = x_45.toInt + 1 := (iv_to ex_46).trans (ad_i rfl (by decide) (by omega) (by omega))
      clear ex_46
      refine va_put (D := (dC, dI)) (ci := 8) (v := .int x_46) (ty := .int) (C := RX8) (T := TX8) (N := 6) hx hb hts in_wsX8_parseBracket_X8 tyX8 tyX8_ok nmX8 hown hK hP hD hS q_7 hq_7 rfl 4 (by decide) (hts (.fieldLink RX8 22 "ShipOffice$Tape" "at" "I") iw_X8_parseBracket_2) (fun _ h9 => h9) rfl (by decide +kernel) rfl rfl (Nat.le_of_ble_eq_true rfl) dX8_parseBracket_56 (fun H locs hP1 hD1 hS => ?_)
      obtain ⟨S_47, eS_47⟩ : ∃ zq, zq = setI S_4 o 4 x_46 := ⟨_, rfl⟩
      have hP : va_P (dC, dI) vwCl (oW cq S_47) H := by rw [eS_47]; exact cP (oset t_6.1 hq_7 hD rfl (he_8_4 t_6.2) neI) hP1
      have hD : va_D A (oW cq S_47) := by rw [eS_47]; exact cD (oset t_6.1 hq_7 hD rfl (he_8_4 t_6.2) neI) hD1
      clear hP1 hD1
      have hIS_47 : oInv S_47 := by rw [eS_47]; exact oInv.I0 (k := 8) (lo := 0) (hi := 60) hIS_4 t_6.2 (by decide) rfl rfl rfl (by omega)
      have XS_47 : oX [804] S_4 S_47 := by rw [eS_47]; exact oX.I (k := 8) (key := 804) t_6.2 rfl (List.mem_singleton.mpr rfl)
      have X_48 : oX [803, 804, 805, 2063] Z S_47 := oX.st X_5 XS_47 (by decide)
      have g_49 : (oI S_47 o 4).toInt = x_46.toInt := by rw [eS_47, setI_same]
      refine lv_aload_n hx hb dX8_parseBracket_59 rfl (lv_at hl 1 rfl) ?_
      refine lv_iload_n hx hb dX8_parseBracket_60 rfl (lv_at hl 2 rfl) ?_
      have t_50 : oty S_47 o 8 := (oX.ty XS_47 t_6)
      have hFc := o_free hD hS hA
      obtain ⟨q_51, hq_51⟩ := og (cq := cq) t_50.1 (oE_8 t_50.2)
      refine va_callv (va_runV (As := [.int x1]) (rest := []) ⟨hx, hb, hml, hown, hts⟩ (c_X8_parseSum_1 l dC dI H.size tL tS tG cq S_47 hIS_47 o t_50 x1 (by omega)) (cwV 1 hts gX8_parseBracket_X8_parseSum rfl rfl rfl (by decide +kernel) ⟨(Nat.le_of_ble_eq_true rfl), (Nat.le_of_ble_eq_true rfl)⟩) (pr_VO (r := (RX8, TX8, 6)) hP hK hD q_51 8 rfl hq_51 (hZ.go hS hFc)) rfl rfl hl.1 rfl (lv_room (Nat.le_of_ble_eq_true rfl)) dX8_parseBracket_61 ⟨(Nat.le_of_ble_eq_true rfl), (Nat.le_of_ble_eq_true rfl)⟩) hS (fun q _ h => hFc q h) hFc (fun u t H locs ht hvm w_52 hB hz1 hk1 hS => ?_)
      obtain ⟨S_54, rfl⟩ : ∃ z, z = u := ⟨_, rfl⟩
      obtain ⟨hP1, hK1, hD1⟩ := hB
      rw [ht] at hP1
      have hP : va_P (dC, dI) vwCl (oW cq S_54) H := hP1
      have hD : va_D A (oW cq S_54) := hD1.weaken (fun _ _ _ h => hFc _ h)
      clear hP1 hK1 hD1 hk1 hz1 hvm ht hFc
      obtain ⟨hIS_54, XS_54⟩ := w_52
      have X_55 : oX [803, 804, 805, 2063] Z S_54 := oX.st X_48 XS_54 (by decide)
      refine lv_aload_n hx hb dX8_parseBracket_64 rfl (lv_at hl 1 rfl) ?_
      refine lv_iload_n hx hb dX8_parseBracket_65 rfl (lv_at hl 0 rfl) ?_
      have t_56 : oty S_54 o 8 := (oX.ty XS_54 t_50)
      have hFc := o_free hD hS hA
      obtain ⟨q_57, hq_57⟩ := og (cq := cq) t_56.1 (oE_8 t_56.2)
      refine va_callv (va_runV (As := [.int x_44]) (rest := []) ⟨hx, hb, hml, hown, hts⟩ (c_X8_emitSign l dC dI H.size tL tS tG cq S_54 hIS_54 o t_56 x_44) (cwV 1 hts gX8_parseBracket_X8_emitSign rfl rfl rfl (by decide +kernel) ⟨(Nat.le_of_ble_eq_true rfl), (Nat.le_of_ble_eq_true rfl)⟩) (pr_VO (r := (RX8, TX8, 6)) hP hK hD q_57 8 rfl hq_57 (hZ.go hS hFc)) rfl rfl hl.1 rfl (lv_room (Nat.le_of_ble_eq_true rfl)) dX8_parseBracket_66 ⟨(Nat.le_of_ble_eq_true rfl), (Nat.le_of_ble_eq_true rfl)⟩) hS (fun q _ h => hFc q h) hFc (fun u t H locs ht hvm w_58 hB hz1 hk1 hS => ?_)
      obtain ⟨S_60, rfl⟩ : ∃ z, z = u := ⟨_, rfl⟩
      obtain ⟨hP1, hK1, hD1⟩ := hB
      rw [ht] at hP1
      have hP : va_P (dC, dI) vwCl (oW cq S_60) H := hP1
      have hD : va_D A (oW cq S_60) := hD1.weaken (fun _ _ _ h => hFc _ h)
      clear hP1 hK1 hD1 hk1 hz1 hvm ht hFc
      obtain ⟨hIS_60, XS_60⟩ := w_58
      have X_61 : oX [803, 804, 805, 2063] Z S_60 := oX.st X_55 XS_60 (by decide)
      refine lv_aload_n hx hb dX8_parseBracket_69 rfl (lv_at hl 1 rfl) ?_
      have t_62 : oty S_60 o 8 := (oX.ty XS_60 t_56)
      obtain ⟨q_63, hq_63⟩ := og (cq := cq) t_62.1 (oE_8 t_62.2)
      refine va_get (D := (dC, dI)) (ci := 8) (v := .int (oI S_60 o 5)) (C := RX8) (T := TX8) (N := 6) hx hb hts in_wsX8_parseBracket_X8 hown hK hP q_63 hq_63 rfl 5 (by decide) (hts (.fieldLink RX8 28 "ShipOffice$Tape" "fault" "I") iw_X8_parseBracket_1) (fun _ h9 => h9) rfl dX8_parseBracket_70 ?_
      refine lv_topi (fun x_64 ex_64 => ?_)
      clear ex_64
      refine lv_if_ge (tgt := 98) hx hb dX8_parseBracket_73 (by decide) (fun c_65 => ?_) (fun c_65 => ?_)
      · have dc_65 := c_le (a := 0) (b := x_64.toInt) (by decide) rfl c_65
        refine lv_aload_n hx hb dX8_parseBracket_98 rfl (lv_at hl 1 rfl) ?_
        refine va_get (D := (dC, dI)) (ci := 8) (v := .int (oI S_60 o 5)) (C := RX8) (T := TX8) (N := 6) hx hb hts in_wsX8_parseBracket_X8 hown hK hP q_63 hq_63 rfl 5 (by decide) (hts (.fieldLink RX8 28 "ShipOffice$Tape" "fault" "I") iw_X8_parseBracket_1) (fun _ h9 => h9) rfl dX8_parseBracket_99 ?_
        refine lv_topi (fun x_66 ex_66 => ?_)
        clear ex_66
        refine lv_if_ge (tgt := 113) hx hb dX8_parseBracket_102 (by decide) (fun c_67 => ?_) (fun c_67 => ?_)
        · have dc_67 := c_le (a := 0) (b := x_66.toInt) (by decide) rfl c_67
          exact W.vret hx hb hr (fun t ht hW => ⟨⟨S_60, rfl, ⟨hIS_60, X_61⟩, ⟨by rw [ht]; exact hP, va_K.moved hW.alike hK, hD⟩⟩, hS.F ht⟩) hS.2.2 dX8_parseBracket_113
        · have dc_67 := c_nle (a := 0) (b := x_66.toInt) (by decide) rfl c_67
          refine lv_aload_n hx hb dX8_parseBracket_105 rfl (lv_at hl 1 rfl) ?_
          refine lv_aload_n hx hb dX8_parseBracket_106 rfl (lv_at hl 1 rfl) ?_
          refine va_get (D := (dC, dI)) (ci := 8) (v := .int (oI S_60 o 4)) (C := RX8) (T := TX8) (N := 6) hx hb hts in_wsX8_parseBracket_X8 hown hK hP q_63 hq_63 rfl 4 (by decide) (hts (.fieldLink RX8 22 "ShipOffice$Tape" "at" "I") iw_X8_parseBracket_2) (fun _ h9 => h9) rfl dX8_parseBracket_107 ?_
          refine lv_topi (fun x_68 ex_68 => ?_)
          have hx_68 : 0 ≤ x_68.toInt ∧ x_68.toInt ≤ 60 := iv_of ex_68 (oInv.iv hIS_60 t_62.2 rfl rfl)
          have gx_68 : x_68.toInt = (oI S_60 o 4).toInt := iv_to ex_68
          clear ex_68
          refine va_put (D := (dC, dI)) (ci := 8) (v := .int x_68) (ty := .int) (C := RX8) (T := TX8) (N := 6) hx hb hts in_wsX8_parseBracket_X8 tyX8 tyX8_ok nmX8 hown hK hP hD hS q_63 hq_63 rfl 5 (by decide) (hts (.fieldLink RX8 28 "ShipOffice$Tape" "fault" "I") iw_X8_parseBracket_1) (fun _ h9 => h9) rfl (by decide +kernel) rfl rfl (Nat.le_of_ble_eq_true rfl) dX8_parseBracket_110 (fun H locs hP1 hD1 hS => ?_)
          obtain ⟨S_69, eS_69⟩ : ∃ zq, zq = setI S_60 o 5 x_68 := ⟨_, rfl⟩
          have hP : va_P (dC, dI) vwCl (oW cq S_69) H := by rw [eS_69]; exact cP (oset t_62.1 hq_63 hD rfl (he_8_5 t_62.2) neI) hP1
          have hD : va_D A (oW cq S_69) := by rw [eS_69]; exact cD (oset t_62.1 hq_63 hD rfl (he_8_5 t_62.2) neI) hD1
          clear hP1 hD1
          have hIS_69 : oInv S_69 := by rw [eS_69]; exact oInv.I0 (k := 8) (lo := -2147483648) (hi := 2147483647) hIS_60 t_62.2 (by decide) rfl rfl rfl (iv_all _)
          have XS_69 : oX [805] S_60 S_69 := by rw [eS_69]; exact oX.I (k := 8) (key := 805) t_62.2 rfl (List.mem_singleton.mpr rfl)
          have X_70 : oX [803, 804, 805, 2063] Z S_69 := oX.st X_61 XS_69 (by decide)
          have g_71 : (oI S_69 o 4).toInt = (oI S_60 o 4).toInt := by rw [eS_69, setI_ne (by decide)]
          exact W.vret hx hb hr (fun t ht hW => ⟨⟨S_69, rfl, ⟨hIS_69, X_70⟩, ⟨by rw [ht]; exact hP, va_K.moved hW.alike hK, hD⟩⟩, hS.F ht⟩) hS.2.2 dX8_parseBracket_113
      · have dc_65 := c_nle (a := 0) (b := x_64.toInt) (by decide) rfl c_65
        refine lv_aload_n hx hb dX8_parseBracket_76 rfl (lv_at hl 1 rfl) ?_
        refine lv_bipush (v := 41) hx hb dX8_parseBracket_77 (by decide) ?_
        have hFc : ∀ q, va_A [] H.size q → A q := pu_free hS hA
        refine va_calli (va_runV (As := [.int 41]) (rest := []) ⟨hx, hb, hml, hown, hts⟩ (c_X8_sees l dC dI H.size cq S_60 hIS_60 o t_62 41) (cwV 1 hts gX8_parseBracket_X8_sees rfl rfl rfl (by decide +kernel) ⟨(Nat.le_of_ble_eq_true rfl), (Nat.le_of_ble_eq_true rfl)⟩) (pr_V (r := (RX8, TX8, 6)) hP hK hD q_63 8 rfl hq_63) rfl rfl hl.1 rfl (lv_room (Nat.le_of_ble_eq_true rfl)) dX8_parseBracket_79 ⟨(Nat.le_of_ble_eq_true rfl), (Nat.le_of_ble_eq_true rfl)⟩) hS (fun q _ h => hFc q h) hFc (fun r_73 u t H locs ht hvm w_72 hB hz1 hk1 hS => ?_)
        have hP := pu_keep hP hk1
        clear hk1 hz1 hvm hB ht hFc
        obtain ⟨hb_74, hx_75⟩ := w_72
        refine lv_if_eq (tgt := 98) hx hb dX8_parseBracket_82 (by decide) (fun c_76 => ?_) (fun c_76 => ?_)
        · have dc_76 := c_eq (a := r_73.toInt) (b := 0) rfl (by decide) c_76
          refine lv_aload_n hx hb dX8_parseBracket_98 rfl (lv_at hl 1 rfl) ?_
          refine va_get (D := (dC, dI)) (ci := 8) (v := .int (oI S_60 o 5)) (C := RX8) (T := TX8) (N := 6) hx hb hts in_wsX8_parseBracket_X8 hown hK hP q_63 hq_63 rfl 5 (by decide) (hts (.fieldLink RX8 28 "ShipOffice$Tape" "fault" "I") iw_X8_parseBracket_1) (fun _ h9 => h9) rfl dX8_parseBracket_99 ?_
          refine lv_topi (fun x_77 ex_77 => ?_)
          clear ex_77
          refine lv_if_ge (tgt := 113) hx hb dX8_parseBracket_102 (by decide) (fun c_78 => ?_) (fun c_78 => ?_)
          · have dc_78 := c_le (a := 0) (b := x_77.toInt) (by decide) rfl c_78
            exact W.vret hx hb hr (fun t ht hW => ⟨⟨S_60, rfl, ⟨hIS_60, X_61⟩, ⟨by rw [ht]; exact hP, va_K.moved hW.alike hK, hD⟩⟩, hS.F ht⟩) hS.2.2 dX8_parseBracket_113
          · have dc_78 := c_nle (a := 0) (b := x_77.toInt) (by decide) rfl c_78
            refine lv_aload_n hx hb dX8_parseBracket_105 rfl (lv_at hl 1 rfl) ?_
            refine lv_aload_n hx hb dX8_parseBracket_106 rfl (lv_at hl 1 rfl) ?_
            refine va_get (D := (dC, dI)) (ci := 8) (v := .int (oI S_60 o 4)) (C := RX8) (T := TX8) (N := 6) hx hb hts in_wsX8_parseBracket_X8 hown hK hP q_63 hq_63 rfl 4 (by decide) (hts (.fieldLink RX8 22 "ShipOffice$Tape" "at" "I") iw_X8_parseBracket_2) (fun _ h9 => h9) rfl dX8_parseBracket_107 ?_
            refine lv_topi (fun x_79 ex_79 => ?_)
            have hx_79 : 0 ≤ x_79.toInt ∧ x_79.toInt ≤ 60 := iv_of ex_79 (oInv.iv hIS_60 t_62.2 rfl rfl)
            have gx_79 : x_79.toInt = (oI S_60 o 4).toInt := iv_to ex_79
            clear ex_79
            refine va_put (D := (dC, dI)) (ci := 8) (v := .int x_79) (ty := .int) (C := RX8) (T := TX8) (N := 6) hx hb hts in_wsX8_parseBracket_X8 tyX8 tyX8_ok nmX8 hown hK hP hD hS q_63 hq_63 rfl 5 (by decide) (hts (.fieldLink RX8 28 "ShipOffice$Tape" "fault" "I") iw_X8_parseBracket_1) (fun _ h9 => h9) rfl (by decide +kernel) rfl rfl (Nat.le_of_ble_eq_true rfl) dX8_parseBracket_110 (fun H locs hP1 hD1 hS => ?_)
            obtain ⟨S_80, eS_80⟩ : ∃ zq, zq = setI S_60 o 5 x_79 := ⟨_, rfl⟩
            have hP : va_P (dC, dI) vwCl (oW cq S_80) H := by rw [eS_80]; exact cP (oset t_62.1 hq_63 hD rfl (he_8_5 t_62.2) neI) hP1
            have hD : va_D A (oW cq S_80) := by rw [eS_80]; exact cD (oset t_62.1 hq_63 hD rfl (he_8_5 t_62.2) neI) hD1
            clear hP1 hD1
            have hIS_80 : oInv S_80 := by rw [eS_80]; exact oInv.I0 (k := 8) (lo := -2147483648) (hi := 2147483647) hIS_60 t_62.2 (by decide) rfl rfl rfl (iv_all _)
            have XS_80 : oX [805] S_60 S_80 := by rw [eS_80]; exact oX.I (k := 8) (key := 805) t_62.2 rfl (List.mem_singleton.mpr rfl)
            have X_81 : oX [803, 804, 805, 2063] Z S_80 := oX.st X_61 XS_80 (by decide)
            have g_82 : (oI S_80 o 4).toInt = (oI S_60 o 4).toInt := by rw [eS_80, setI_ne (by decide)]
            exact W.vret hx hb hr (fun t ht hW => ⟨⟨S_80, rfl, ⟨hIS_80, X_81⟩, ⟨by rw [ht]; exact hP, va_K.moved hW.alike hK, hD⟩⟩, hS.F ht⟩) hS.2.2 dX8_parseBracket_113
        · have dc_76 := c_ne (a := r_73.toInt) (b := 0) rfl (by decide) c_76
          have hi_83 := Or.resolve_left hx_75 c_76
          refine lv_aload_n hx hb dX8_parseBracket_85 rfl (lv_at hl 1 rfl) ?_
          refine lv_dup hx hb dX8_parseBracket_86 rfl ?_
          refine va_get (D := (dC, dI)) (ci := 8) (v := .int (oI S_60 o 4)) (C := RX8) (T := TX8) (N := 6) hx hb hts in_wsX8_parseBracket_X8 hown hK hP q_63 hq_63 rfl 4 (by decide) (hts (.fieldLink RX8 22 "ShipOffice$Tape" "at" "I") iw_X8_parseBracket_2) (fun _ h9 => h9) rfl dX8_parseBracket_87 ?_
          refine lv_topi (fun x_84 ex_84 => ?_)
          have hx_84 : 0 ≤ x_84.toInt ∧ x_84.toInt ≤ 60 := iv_of ex_84 (oInv.iv hIS_60 t_62.2 rfl rfl)
          have gx_84 : x_84.toInt = (oI S_60 o 4).toInt := iv_to ex_84
          clear ex_84
          refine lv_iconst (v := 1) hx hb dX8_parseBracket_90 (by decide) ?_
          refine lv_iadd hx hb dX8_parseBracket_91 ?_
          refine lv_topi (fun x_85 ex_85 => ?_)
          have hx_85 : x_85.toInt = x_84.toInt + 1 := (iv_to ex_85).trans (ad_i rfl (by decide) (by omega) (by omega))
          clear ex_85
          refine va_put (D := (dC, dI)) (ci := 8) (v := .int x_85) (ty := .int) (C := RX8) (T := TX8) (N := 6) hx hb hts in_wsX8_parseBracket_X8 tyX8 tyX8_ok nmX8 hown hK hP hD hS q_63 hq_63 rfl 4 (by decide) (hts (.fieldLink RX8 22 "ShipOffice$Tape" "at" "I") iw_X8_parseBracket_2) (fun _ h9 => h9) rfl (by decide +kernel) rfl rfl (Nat.le_of_ble_eq_true rfl) dX8_parseBracket_92 (fun H locs hP1 hD1 hS => ?_)
          obtain ⟨S_86, eS_86⟩ : ∃ zq, zq = setI S_60 o 4 x_85 := ⟨_, rfl⟩
          have hP : va_P (dC, dI) vwCl (oW cq S_86) H := by rw [eS_86]; exact cP (oset t_62.1 hq_63 hD rfl (he_8_4 t_62.2) neI) hP1
          have hD : va_D A (oW cq S_86) := by rw [eS_86]; exact cD (oset t_62.1 hq_63 hD rfl (he_8_4 t_62.2) neI) hD1
          clear hP1 hD1
          have hIS_86 : oInv S_86 := by rw [eS_86]; exact oInv.I0 (k := 8) (lo := 0) (hi := 60) hIS_60 t_62.2 (by decide) rfl rfl rfl (by omega)
          have XS_86 : oX [804] S_60 S_86 := by rw [eS_86]; exact oX.I (k := 8) (key := 804) t_62.2 rfl (List.mem_singleton.mpr rfl)
          have X_87 : oX [803, 804, 805, 2063] Z S_86 := oX.st X_61 XS_86 (by decide)
          have g_88 : (oI S_86 o 4).toInt = x_85.toInt := by rw [eS_86, setI_same]
          refine lv_goto (tgt := 113) hx hb dX8_parseBracket_95 (by decide) ?_
          exact W.vret hx hb hr (fun t ht hW => ⟨⟨S_86, rfl, ⟨hIS_86, X_87⟩, ⟨by rw [ht]; exact hP, va_K.moved hW.alike hK, hD⟩⟩, hS.F ht⟩) hS.2.2 dX8_parseBracket_113
    · have dc_39 := c_eq (a := r_36.toInt) (b := 0) rfl (by decide) c_39
      refine lv_aload_n hx hb dX8_parseBracket_21 rfl (lv_at hl 0 rfl) ?_
      refine lv_bipush (v := 61) hx hb dX8_parseBracket_22 (by decide) ?_
      have hFc : ∀ q, va_A [] H.size q → A q := pu_free hS hA
      refine va_calli (va_runV (As := [.int 61]) (rest := []) ⟨hx, hb, hml, hown, hts⟩ (c_X8_sees l dC dI H.size cq S_4 hIS_4 o t_6 61) (cwV 1 hts gX8_parseBracket_X8_sees rfl rfl rfl (by decide +kernel) ⟨(Nat.le_of_ble_eq_true rfl), (Nat.le_of_ble_eq_true rfl)⟩) (pr_V (r := (RX8, TX8, 6)) hP hK hD q_7 8 rfl hq_7) rfl rfl hl.1 rfl (lv_room (Nat.le_of_ble_eq_true rfl)) dX8_parseBracket_24 ⟨(Nat.le_of_ble_eq_true rfl), (Nat.le_of_ble_eq_true rfl)⟩) hS (fun q _ h => hFc q h) hFc (fun r_90 u t H locs ht hvm w_89 hB hz1 hk1 hS => ?_)
      have hP := pu_keep hP hk1
      clear hk1 hz1 hvm hB ht hFc
      obtain ⟨hb_91, hx_92⟩ := w_89
      refine lv_if_ne (tgt := 39) hx hb dX8_parseBracket_27 (by decide) (fun c_93 => ?_) (fun c_93 => ?_)
      · have dc_93 := c_ne (a := r_90.toInt) (b := 0) rfl (by decide) c_93
        have hi_94 := Or.resolve_left hx_92 c_93
        refine lv_aload_n hx hb dX8_parseBracket_39 rfl (lv_at hl 0 rfl) ?_
        obtain ⟨b_95, hb_95⟩ := oInv.nn (i := 0) hIS_4 t_6 rfl
        refine va_get (D := (dC, dI)) (ci := 8) (v := .ref b_95) (C := RX8) (T := TX8) (N := 6) hx hb hts in_wsX8_parseBracket_X8 hown hK hP q_7 hq_7 rfl 0 (by decide) (hts (.fieldLink RX8 9 "ShipOffice$Tape" "bytes" "[I") iw_X8_parseBracket_3) (fun _ h9 => h9) (o_rd hb_95) dX8_parseBracket_40 ?_
        have tb_95 : oty S_4 b_95 160 := oInv.rd hIS_4 t_6.2 hb_95 rfl rfl
        refine lv_aload_n hx hb dX8_parseBracket_43 rfl (lv_at hl 0 rfl) ?_
        refine va_get (D := (dC, dI)) (ci := 8) (v := .int (oI S_4 o 4)) (C := RX8) (T := TX8) (N := 6) hx hb hts in_wsX8_parseBracket_X8 hown hK hP q_7 hq_7 rfl 4 (by decide) (hts (.fieldLink RX8 22 "ShipOffice$Tape" "at" "I") iw_X8_parseBracket_2) (fun _ h9 => h9) rfl dX8_parseBracket_44 ?_
        refine lv_topi (fun x_96 ex_96 => ?_)
        have hx_96 : 0 ≤ x_96.toInt ∧ x_96.toInt ≤ 60 := iv_of ex_96 (oInv.iv hIS_4 t_6.2 rfl rfl)
        have gx_96 : x_96.toInt = (oI S_4 o 4).toInt := iv_to ex_96
        clear ex_96
        obtain ⟨q_97, hq_97⟩ := og (cq := cq) tb_95.1 (oE_a1 (n := 60) tb_95.2 (by decide))
        refine va_iald hx hb hK hP q_97 0 hq_97 rfl (vp_in_iff.mpr (by omega)) dX8_parseBracket_47 ?_
        refine lv_topi (fun x_98 ex_98 => ?_)
        clear ex_98
        refine lv_istore_n (lv' := [(2, .int x_98), (0, .ref o), (1, .int x1)]) hx hb dX8_parseBracket_48 rfl hl (by decide) rfl (fun ls hl => ?_)
        refine lv_aload_n hx hb dX8_parseBracket_49 rfl (lv_at hl 1 rfl) ?_
        refine lv_dup hx hb dX8_parseBracket_50 rfl ?_
        refine va_get (D := (dC, dI)) (ci := 8) (v := .int (oI S_4 o 4)) (C := RX8) (T := TX8) (N := 6) hx hb hts in_wsX8_parseBracket_X8 hown hK hP q_7 hq_7 rfl 4 (by decide) (hts (.fieldLink RX8 22 "ShipOffice$Tape" "at" "I") iw_X8_parseBracket_2) (fun _ h9 => h9) rfl dX8_parseBracket_51 ?_
        refine lv_topi (fun x_99 ex_99 => ?_)
        have hx_99 : 0 ≤ x_99.toInt ∧ x_99.toInt ≤ 60 := iv_of ex_99 (oInv.iv hIS_4 t_6.2 rfl rfl)
        have gx_99 : x_99.toInt = (oI S_4 o 4).toInt := iv_to ex_99
        clear ex_99
        refine lv_iconst (v := 1) hx hb dX8_parseBracket_54 (by decide) ?_
        refine lv_iadd hx hb dX8_parseBracket_55 ?_
        refine lv_topi (fun x_100 ex_100 => ?_)
        have hx_100 : x_100.toInt = x_99.toInt + 1 := (iv_to ex_100).trans (ad_i rfl (by decide) (by omega) (by omega))
        clear ex_100
        refine va_put (D := (dC, dI)) (ci := 8) (v := .int x_100) (ty := .int) (C := RX8) (T := TX8) (N := 6) hx hb hts in_wsX8_parseBracket_X8 tyX8 tyX8_ok nmX8 hown hK hP hD hS q_7 hq_7 rfl 4 (by decide) (hts (.fieldLink RX8 22 "ShipOffice$Tape" "at" "I") iw_X8_parseBracket_2) (fun _ h9 => h9) rfl (by decide +kernel) rfl rfl (Nat.le_of_ble_eq_true rfl) dX8_parseBracket_56 (fun H locs hP1 hD1 hS => ?_)
        obtain ⟨S_101, eS_101⟩ : ∃ zq, zq = setI S_4 o 4 x_100 := ⟨_, rfl⟩
        have hP : va_P (dC, dI) vwCl (oW cq S_101) H := by rw [eS_101]; exact cP (oset t_6.1 hq_7 hD rfl (he_8_4 t_6.2) neI) hP1
        have hD : va_D A (oW cq S_101) := by rw [eS_101]; exact cD (oset t_6.1 hq_7 hD rfl (he_8_4 t_6.2) neI) hD1
        clear hP1 hD1
        have hIS_101 : oInv S_101 := by rw [eS_101]; exact oInv.I0 (k := 8) (lo := 0) (hi := 60) hIS_4 t_6.2 (by decide) rfl rfl rfl (by omega)
        have XS_101 : oX [804] S_4 S_101 := by rw [eS_101]; exact oX.I (k := 8) (key := 804) t_6.2 rfl (List.mem_singleton.mpr rfl)
        have X_102 : oX [803, 804, 805, 2063] Z S_101 := oX.st X_5 XS_101 (by decide)
        have g_103 : (oI S_101 o 4).toInt = x_100.toInt := by rw [eS_101, setI_same]
        refine lv_aload_n hx hb dX8_parseBracket_59 rfl (lv_at hl 1 rfl) ?_
        refine lv_iload_n hx hb dX8_parseBracket_60 rfl (lv_at hl 2 rfl) ?_
        have t_104 : oty S_101 o 8 := (oX.ty XS_101 t_6)
        have hFc := o_free hD hS hA
        obtain ⟨q_105, hq_105⟩ := og (cq := cq) t_104.1 (oE_8 t_104.2)
        refine va_callv (va_runV (As := [.int x1]) (rest := []) ⟨hx, hb, hml, hown, hts⟩ (c_X8_parseSum_1 l dC dI H.size tL tS tG cq S_101 hIS_101 o t_104 x1 (by omega)) (cwV 1 hts gX8_parseBracket_X8_parseSum rfl rfl rfl (by decide +kernel) ⟨(Nat.le_of_ble_eq_true rfl), (Nat.le_of_ble_eq_true rfl)⟩) (pr_VO (r := (RX8, TX8, 6)) hP hK hD q_105 8 rfl hq_105 (hZ.go hS hFc)) rfl rfl hl.1 rfl (lv_room (Nat.le_of_ble_eq_true rfl)) dX8_parseBracket_61 ⟨(Nat.le_of_ble_eq_true rfl), (Nat.le_of_ble_eq_true rfl)⟩) hS (fun q _ h => hFc q h) hFc (fun u t H locs ht hvm w_106 hB hz1 hk1 hS => ?_)
        obtain ⟨S_108, rfl⟩ : ∃ z, z = u := ⟨_, rfl⟩
        obtain ⟨hP1, hK1, hD1⟩ := hB
        rw [ht] at hP1
        have hP : va_P (dC, dI) vwCl (oW cq S_108) H := hP1
        have hD : va_D A (oW cq S_108) := hD1.weaken (fun _ _ _ h => hFc _ h)
        clear hP1 hK1 hD1 hk1 hz1 hvm ht hFc
        obtain ⟨hIS_108, XS_108⟩ := w_106
        have X_109 : oX [803, 804, 805, 2063] Z S_108 := oX.st X_102 XS_108 (by decide)
        refine lv_aload_n hx hb dX8_parseBracket_64 rfl (lv_at hl 1 rfl) ?_
        refine lv_iload_n hx hb dX8_parseBracket_65 rfl (lv_at hl 0 rfl) ?_
        have t_110 : oty S_108 o 8 := (oX.ty XS_108 t_104)
        have hFc := o_free hD hS hA
        obtain ⟨q_111, hq_111⟩ := og (cq := cq) t_110.1 (oE_8 t_110.2)
        refine va_callv (va_runV (As := [.int x_98]) (rest := []) ⟨hx, hb, hml, hown, hts⟩ (c_X8_emitSign l dC dI H.size tL tS tG cq S_108 hIS_108 o t_110 x_98) (cwV 1 hts gX8_parseBracket_X8_emitSign rfl rfl rfl (by decide +kernel) ⟨(Nat.le_of_ble_eq_true rfl), (Nat.le_of_ble_eq_true rfl)⟩) (pr_VO (r := (RX8, TX8, 6)) hP hK hD q_111 8 rfl hq_111 (hZ.go hS hFc)) rfl rfl hl.1 rfl (lv_room (Nat.le_of_ble_eq_true rfl)) dX8_parseBracket_66 ⟨(Nat.le_of_ble_eq_true rfl), (Nat.le_of_ble_eq_true rfl)⟩) hS (fun q _ h => hFc q h) hFc (fun u t H locs ht hvm w_112 hB hz1 hk1 hS => ?_)
        obtain ⟨S_114, rfl⟩ : ∃ z, z = u := ⟨_, rfl⟩
        obtain ⟨hP1, hK1, hD1⟩ := hB
        rw [ht] at hP1
        have hP : va_P (dC, dI) vwCl (oW cq S_114) H := hP1
        have hD : va_D A (oW cq S_114) := hD1.weaken (fun _ _ _ h => hFc _ h)
        clear hP1 hK1 hD1 hk1 hz1 hvm ht hFc
        obtain ⟨hIS_114, XS_114⟩ := w_112
        have X_115 : oX [803, 804, 805, 2063] Z S_114 := oX.st X_109 XS_114 (by decide)
        refine lv_aload_n hx hb dX8_parseBracket_69 rfl (lv_at hl 1 rfl) ?_
        have t_116 : oty S_114 o 8 := (oX.ty XS_114 t_110)
        obtain ⟨q_117, hq_117⟩ := og (cq := cq) t_116.1 (oE_8 t_116.2)
        refine va_get (D := (dC, dI)) (ci := 8) (v := .int (oI S_114 o 5)) (C := RX8) (T := TX8) (N := 6) hx hb hts in_wsX8_parseBracket_X8 hown hK hP q_117 hq_117 rfl 5 (by decide) (hts (.fieldLink RX8 28 "ShipOffice$Tape" "fault" "I") iw_X8_parseBracket_1) (fun _ h9 => h9) rfl dX8_parseBracket_70 ?_
        refine lv_topi (fun x_118 ex_118 => ?_)
        clear ex_118
        refine lv_if_ge (tgt := 98) hx hb dX8_parseBracket_73 (by decide) (fun c_119 => ?_) (fun c_119 => ?_)
        · have dc_119 := c_le (a := 0) (b := x_118.toInt) (by decide) rfl c_119
          refine lv_aload_n hx hb dX8_parseBracket_98 rfl (lv_at hl 1 rfl) ?_
          refine va_get (D := (dC, dI)) (ci := 8) (v := .int (oI S_114 o 5)) (C := RX8) (T := TX8) (N := 6) hx hb hts in_wsX8_parseBracket_X8 hown hK hP q_117 hq_117 rfl 5 (by decide) (hts (.fieldLink RX8 28 "ShipOffice$Tape" "fault" "I") iw_X8_parseBracket_1) (fun _ h9 => h9) rfl dX8_parseBracket_99 ?_
          refine lv_topi (fun x_120 ex_120 => ?_)
          clear ex_120
          refine lv_if_ge (tgt := 113) hx hb dX8_parseBracket_102 (by decide) (fun c_121 => ?_) (fun c_121 => ?_)
          · have dc_121 := c_le (a := 0) (b := x_120.toInt) (by decide) rfl c_121
            exact W.vret hx hb hr (fun t ht hW => ⟨⟨S_114, rfl, ⟨hIS_114, X_115⟩, ⟨by rw [ht]; exact hP, va_K.moved hW.alike hK, hD⟩⟩, hS.F ht⟩) hS.2.2 dX8_parseBracket_113
          · have dc_121 := c_nle (a := 0) (b := x_120.toInt) (by decide) rfl c_121
            refine lv_aload_n hx hb dX8_parseBracket_105 rfl (lv_at hl 1 rfl) ?_
            refine lv_aload_n hx hb dX8_parseBracket_106 rfl (lv_at hl 1 rfl) ?_
            refine va_get (D := (dC, dI)) (ci := 8) (v := .int (oI S_114 o 4)) (C := RX8) (T := TX8) (N := 6) hx hb hts in_wsX8_parseBracket_X8 hown hK hP q_117 hq_117 rfl 4 (by decide) (hts (.fieldLink RX8 22 "ShipOffice$Tape" "at" "I") iw_X8_parseBracket_2) (fun _ h9 => h9) rfl dX8_parseBracket_107 ?_
            refine lv_topi (fun x_122 ex_122 => ?_)
            have hx_122 : 0 ≤ x_122.toInt ∧ x_122.toInt ≤ 60 := iv_of ex_122 (oInv.iv hIS_114 t_116.2 rfl rfl)
            have gx_122 : x_122.toInt = (oI S_114 o 4).toInt := iv_to ex_122
            clear ex_122
            refine va_put (D := (dC, dI)) (ci := 8) (v := .int x_122) (ty := .int) (C := RX8) (T := TX8) (N := 6) hx hb hts in_wsX8_parseBracket_X8 tyX8 tyX8_ok nmX8 hown hK hP hD hS q_117 hq_117 rfl 5 (by decide) (hts (.fieldLink RX8 28 "ShipOffice$Tape" "fault" "I") iw_X8_parseBracket_1) (fun _ h9 => h9) rfl (by decide +kernel) rfl rfl (Nat.le_of_ble_eq_true rfl) dX8_parseBracket_110 (fun H locs hP1 hD1 hS => ?_)
            obtain ⟨S_123, eS_123⟩ : ∃ zq, zq = setI S_114 o 5 x_122 := ⟨_, rfl⟩
            have hP : va_P (dC, dI) vwCl (oW cq S_123) H := by rw [eS_123]; exact cP (oset t_116.1 hq_117 hD rfl (he_8_5 t_116.2) neI) hP1
            have hD : va_D A (oW cq S_123) := by rw [eS_123]; exact cD (oset t_116.1 hq_117 hD rfl (he_8_5 t_116.2) neI) hD1
            clear hP1 hD1
            have hIS_123 : oInv S_123 := by rw [eS_123]; exact oInv.I0 (k := 8) (lo := -2147483648) (hi := 2147483647) hIS_114 t_116.2 (by decide) rfl rfl rfl (iv_all _)
            have XS_123 : oX [805] S_114 S_123 := by rw [eS_123]; exact oX.I (k := 8) (key := 805) t_116.2 rfl (List.mem_singleton.mpr rfl)
            have X_124 : oX [803, 804, 805, 2063] Z S_123 := oX.st X_115 XS_123 (by decide)
            have g_125 : (oI S_123 o 4).toInt = (oI S_114 o 4).toInt := by rw [eS_123, setI_ne (by decide)]
            exact W.vret hx hb hr (fun t ht hW => ⟨⟨S_123, rfl, ⟨hIS_123, X_124⟩, ⟨by rw [ht]; exact hP, va_K.moved hW.alike hK, hD⟩⟩, hS.F ht⟩) hS.2.2 dX8_parseBracket_113
        · have dc_119 := c_nle (a := 0) (b := x_118.toInt) (by decide) rfl c_119
          refine lv_aload_n hx hb dX8_parseBracket_76 rfl (lv_at hl 1 rfl) ?_
          refine lv_bipush (v := 41) hx hb dX8_parseBracket_77 (by decide) ?_
          have hFc : ∀ q, va_A [] H.size q → A q := pu_free hS hA
          refine va_calli (va_runV (As := [.int 41]) (rest := []) ⟨hx, hb, hml, hown, hts⟩ (c_X8_sees l dC dI H.size cq S_114 hIS_114 o t_116 41) (cwV 1 hts gX8_parseBracket_X8_sees rfl rfl rfl (by decide +kernel) ⟨(Nat.le_of_ble_eq_true rfl), (Nat.le_of_ble_eq_true rfl)⟩) (pr_V (r := (RX8, TX8, 6)) hP hK hD q_117 8 rfl hq_117) rfl rfl hl.1 rfl (lv_room (Nat.le_of_ble_eq_true rfl)) dX8_parseBracket_79 ⟨(Nat.le_of_ble_eq_true rfl), (Nat.le_of_ble_eq_true rfl)⟩) hS (fun q _ h => hFc q h) hFc (fun r_127 u t H locs ht hvm w_126 hB hz1 hk1 hS => ?_)
          have hP := pu_keep hP hk1
          clear hk1 hz1 hvm hB ht hFc
          obtain ⟨hb_128, hx_129⟩ := w_126
          refine lv_if_eq (tgt := 98) hx hb dX8_parseBracket_82 (by decide) (fun c_130 => ?_) (fun c_130 => ?_)
          · have dc_130 := c_eq (a := r_127.toInt) (b := 0) rfl (by decide) c_130
            refine lv_aload_n hx hb dX8_parseBracket_98 rfl (lv_at hl 1 rfl) ?_
            refine va_get (D := (dC, dI)) (ci := 8) (v := .int (oI S_114 o 5)) (C := RX8) (T := TX8) (N := 6) hx hb hts in_wsX8_parseBracket_X8 hown hK hP q_117 hq_117 rfl 5 (by decide) (hts (.fieldLink RX8 28 "ShipOffice$Tape" "fault" "I") iw_X8_parseBracket_1) (fun _ h9 => h9) rfl dX8_parseBracket_99 ?_
            refine lv_topi (fun x_131 ex_131 => ?_)
            clear ex_131
            refine lv_if_ge (tgt := 113) hx hb dX8_parseBracket_102 (by decide) (fun c_132 => ?_) (fun c_132 => ?_)
            · have dc_132 := c_le (a := 0) (b := x_131.toInt) (by decide) rfl c_132
              exact W.vret hx hb hr (fun t ht hW => ⟨⟨S_114, rfl, ⟨hIS_114, X_115⟩, ⟨by rw [ht]; exact hP, va_K.moved hW.alike hK, hD⟩⟩, hS.F ht⟩) hS.2.2 dX8_parseBracket_113
            · have dc_132 := c_nle (a := 0) (b := x_131.toInt) (by decide) rfl c_132
              refine lv_aload_n hx hb dX8_parseBracket_105 rfl (lv_at hl 1 rfl) ?_
              refine lv_aload_n hx hb dX8_parseBracket_106 rfl (lv_at hl 1 rfl) ?_
              refine va_get (D := (dC, dI)) (ci := 8) (v := .int (oI S_114 o 4)) (C := RX8) (T := TX8) (N := 6) hx hb hts in_wsX8_parseBracket_X8 hown hK hP q_117 hq_117 rfl 4 (by decide) (hts (.fieldLink RX8 22 "ShipOffice$Tape" "at" "I") iw_X8_parseBracket_2) (fun _ h9 => h9) rfl dX8_parseBracket_107 ?_
              refine lv_topi (fun x_133 ex_133 => ?_)
              have hx_133 : 0 ≤ x_133.toInt ∧ x_133.toInt ≤ 60 := iv_of ex_133 (oInv.iv hIS_114 t_116.2 rfl rfl)
              have gx_133 : x_133.toInt = (oI S_114 o 4).toInt := iv_to ex_133
              clear ex_133
              refine va_put (D := (dC, dI)) (ci := 8) (v := .int x_133) (ty := .int) (C := RX8) (T := TX8) (N := 6) hx hb hts in_wsX8_parseBracket_X8 tyX8 tyX8_ok nmX8 hown hK hP hD hS q_117 hq_117 rfl 5 (by decide) (hts (.fieldLink RX8 28 "ShipOffice$Tape" "fault" "I") iw_X8_parseBracket_1) (fun _ h9 => h9) rfl (by decide +kernel) rfl rfl (Nat.le_of_ble_eq_true rfl) dX8_parseBracket_110 (fun H locs hP1 hD1 hS => ?_)
              obtain ⟨S_134, eS_134⟩ : ∃ zq, zq = setI S_114 o 5 x_133 := ⟨_, rfl⟩
              have hP : va_P (dC, dI) vwCl (oW cq S_134) H := by rw [eS_134]; exact cP (oset t_116.1 hq_117 hD rfl (he_8_5 t_116.2) neI) hP1
              have hD : va_D A (oW cq S_134) := by rw [eS_134]; exact cD (oset t_116.1 hq_117 hD rfl (he_8_5 t_116.2) neI) hD1
              clear hP1 hD1
              have hIS_134 : oInv S_134 := by rw [eS_134]; exact oInv.I0 (k := 8) (lo := -2147483648) (hi := 2147483647) hIS_114 t_116.2 (by decide) rfl rfl rfl (iv_all _)
              have XS_134 : oX [805] S_114 S_134 := by rw [eS_134]; exact oX.I (k := 8) (key := 805) t_116.2 rfl (List.mem_singleton.mpr rfl)
              have X_135 : oX [803, 804, 805, 2063] Z S_134 := oX.st X_115 XS_134 (by decide)
              have g_136 : (oI S_134 o 4).toInt = (oI S_114 o 4).toInt := by rw [eS_134, setI_ne (by decide)]
              exact W.vret hx hb hr (fun t ht hW => ⟨⟨S_134, rfl, ⟨hIS_134, X_135⟩, ⟨by rw [ht]; exact hP, va_K.moved hW.alike hK, hD⟩⟩, hS.F ht⟩) hS.2.2 dX8_parseBracket_113
          · have dc_130 := c_ne (a := r_127.toInt) (b := 0) rfl (by decide) c_130
            have hi_137 := Or.resolve_left hx_129 c_130
            refine lv_aload_n hx hb dX8_parseBracket_85 rfl (lv_at hl 1 rfl) ?_
            refine lv_dup hx hb dX8_parseBracket_86 rfl ?_
            refine va_get (D := (dC, dI)) (ci := 8) (v := .int (oI S_114 o 4)) (C := RX8) (T := TX8) (N := 6) hx hb hts in_wsX8_parseBracket_X8 hown hK hP q_117 hq_117 rfl 4 (by decide) (hts (.fieldLink RX8 22 "ShipOffice$Tape" "at" "I") iw_X8_parseBracket_2) (fun _ h9 => h9) rfl dX8_parseBracket_87 ?_
            refine lv_topi (fun x_138 ex_138 => ?_)
            have hx_138 : 0 ≤ x_138.toInt ∧ x_138.toInt ≤ 60 := iv_of ex_138 (oInv.iv hIS_114 t_116.2 rfl rfl)
            have gx_138 : x_138.toInt = (oI S_114 o 4).toInt := iv_to ex_138
            clear ex_138
            refine lv_iconst (v := 1) hx hb dX8_parseBracket_90 (by decide) ?_
            refine lv_iadd hx hb dX8_parseBracket_91 ?_
            refine lv_topi (fun x_139 ex_139 => ?_)
            have hx_139 : x_139.toInt = x_138.toInt + 1 := (iv_to ex_139).trans (ad_i rfl (by decide) (by omega) (by omega))
            clear ex_139
            refine va_put (D := (dC, dI)) (ci := 8) (v := .int x_139) (ty := .int) (C := RX8) (T := TX8) (N := 6) hx hb hts in_wsX8_parseBracket_X8 tyX8 tyX8_ok nmX8 hown hK hP hD hS q_117 hq_117 rfl 4 (by decide) (hts (.fieldLink RX8 22 "ShipOffice$Tape" "at" "I") iw_X8_parseBracket_2) (fun _ h9 => h9) rfl (by decide +kernel) rfl rfl (Nat.le_of_ble_eq_true rfl) dX8_parseBracket_92 (fun H locs hP1 hD1 hS => ?_)
            obtain ⟨S_140, eS_140⟩ : ∃ zq, zq = setI S_114 o 4 x_139 := ⟨_, rfl⟩
            have hP : va_P (dC, dI) vwCl (oW cq S_140) H := by rw [eS_140]; exact cP (oset t_116.1 hq_117 hD rfl (he_8_4 t_116.2) neI) hP1
            have hD : va_D A (oW cq S_140) := by rw [eS_140]; exact cD (oset t_116.1 hq_117 hD rfl (he_8_4 t_116.2) neI) hD1
            clear hP1 hD1
            have hIS_140 : oInv S_140 := by rw [eS_140]; exact oInv.I0 (k := 8) (lo := 0) (hi := 60) hIS_114 t_116.2 (by decide) rfl rfl rfl (by omega)
            have XS_140 : oX [804] S_114 S_140 := by rw [eS_140]; exact oX.I (k := 8) (key := 804) t_116.2 rfl (List.mem_singleton.mpr rfl)
            have X_141 : oX [803, 804, 805, 2063] Z S_140 := oX.st X_115 XS_140 (by decide)
            have g_142 : (oI S_140 o 4).toInt = x_139.toInt := by rw [eS_140, setI_same]
            refine lv_goto (tgt := 113) hx hb dX8_parseBracket_95 (by decide) ?_
            exact W.vret hx hb hr (fun t ht hW => ⟨⟨S_140, rfl, ⟨hIS_140, X_141⟩, ⟨by rw [ht]; exact hP, va_K.moved hW.alike hK, hD⟩⟩, hS.F ht⟩) hS.2.2 dX8_parseBracket_113
      · have dc_93 := c_eq (a := r_90.toInt) (b := 0) rfl (by decide) c_93
        refine lv_aload_n hx hb dX8_parseBracket_30 rfl (lv_at hl 0 rfl) ?_
        refine lv_bipush (v := 62) hx hb dX8_parseBracket_31 (by decide) ?_
        have hFc : ∀ q, va_A [] H.size q → A q := pu_free hS hA
        refine va_calli (va_runV (As := [.int 62]) (rest := []) ⟨hx, hb, hml, hown, hts⟩ (c_X8_sees l dC dI H.size cq S_4 hIS_4 o t_6 62) (cwV 1 hts gX8_parseBracket_X8_sees rfl rfl rfl (by decide +kernel) ⟨(Nat.le_of_ble_eq_true rfl), (Nat.le_of_ble_eq_true rfl)⟩) (pr_V (r := (RX8, TX8, 6)) hP hK hD q_7 8 rfl hq_7) rfl rfl hl.1 rfl (lv_room (Nat.le_of_ble_eq_true rfl)) dX8_parseBracket_33 ⟨(Nat.le_of_ble_eq_true rfl), (Nat.le_of_ble_eq_true rfl)⟩) hS (fun q _ h => hFc q h) hFc (fun r_144 u t H locs ht hvm w_143 hB hz1 hk1 hS => ?_)
        have hP := pu_keep hP hk1
        clear hk1 hz1 hvm hB ht hFc
        obtain ⟨hb_145, hx_146⟩ := w_143
        refine lv_if_eq (tgt := 69) hx hb dX8_parseBracket_36 (by decide) (fun c_147 => ?_) (fun c_147 => ?_)
        · have dc_147 := c_eq (a := r_144.toInt) (b := 0) rfl (by decide) c_147
          refine lv_aload_n hx hb dX8_parseBracket_69 rfl (lv_at hl 0 rfl) ?_
          refine va_get (D := (dC, dI)) (ci := 8) (v := .int (oI S_4 o 5)) (C := RX8) (T := TX8) (N := 6) hx hb hts in_wsX8_parseBracket_X8 hown hK hP q_7 hq_7 rfl 5 (by decide) (hts (.fieldLink RX8 28 "ShipOffice$Tape" "fault" "I") iw_X8_parseBracket_1) (fun _ h9 => h9) rfl dX8_parseBracket_70 ?_
          refine lv_topi (fun x_148 ex_148 => ?_)
          clear ex_148
          refine lv_if_ge (tgt := 98) hx hb dX8_parseBracket_73 (by decide) (fun c_149 => ?_) (fun c_149 => ?_)
          · have dc_149 := c_le (a := 0) (b := x_148.toInt) (by decide) rfl c_149
            refine lv_aload_n hx hb dX8_parseBracket_98 rfl (lv_at hl 0 rfl) ?_
            refine va_get (D := (dC, dI)) (ci := 8) (v := .int (oI S_4 o 5)) (C := RX8) (T := TX8) (N := 6) hx hb hts in_wsX8_parseBracket_X8 hown hK hP q_7 hq_7 rfl 5 (by decide) (hts (.fieldLink RX8 28 "ShipOffice$Tape" "fault" "I") iw_X8_parseBracket_1) (fun _ h9 => h9) rfl dX8_parseBracket_99 ?_
            refine lv_topi (fun x_150 ex_150 => ?_)
            clear ex_150
            refine lv_if_ge (tgt := 113) hx hb dX8_parseBracket_102 (by decide) (fun c_151 => ?_) (fun c_151 => ?_)
            · have dc_151 := c_le (a := 0) (b := x_150.toInt) (by decide) rfl c_151
              exact W.vret hx hb hr (fun t ht hW => ⟨⟨S_4, rfl, ⟨hIS_4, X_5⟩, ⟨by rw [ht]; exact hP, va_K.moved hW.alike hK, hD⟩⟩, hS.F ht⟩) hS.2.2 dX8_parseBracket_113
            · have dc_151 := c_nle (a := 0) (b := x_150.toInt) (by decide) rfl c_151
              refine lv_aload_n hx hb dX8_parseBracket_105 rfl (lv_at hl 0 rfl) ?_
              refine lv_aload_n hx hb dX8_parseBracket_106 rfl (lv_at hl 0 rfl) ?_
              refine va_get (D := (dC, dI)) (ci := 8) (v := .int (oI S_4 o 4)) (C := RX8) (T := TX8) (N := 6) hx hb hts in_wsX8_parseBracket_X8 hown hK hP q_7 hq_7 rfl 4 (by decide) (hts (.fieldLink RX8 22 "ShipOffice$Tape" "at" "I") iw_X8_parseBracket_2) (fun _ h9 => h9) rfl dX8_parseBracket_107 ?_
              refine lv_topi (fun x_152 ex_152 => ?_)
              have hx_152 : 0 ≤ x_152.toInt ∧ x_152.toInt ≤ 60 := iv_of ex_152 (oInv.iv hIS_4 t_6.2 rfl rfl)
              have gx_152 : x_152.toInt = (oI S_4 o 4).toInt := iv_to ex_152
              clear ex_152
              refine va_put (D := (dC, dI)) (ci := 8) (v := .int x_152) (ty := .int) (C := RX8) (T := TX8) (N := 6) hx hb hts in_wsX8_parseBracket_X8 tyX8 tyX8_ok nmX8 hown hK hP hD hS q_7 hq_7 rfl 5 (by decide) (hts (.fieldLink RX8 28 "ShipOffice$Tape" "fault" "I") iw_X8_parseBracket_1) (fun _ h9 => h9) rfl (by decide +kernel) rfl rfl (Nat.le_of_ble_eq_true rfl) dX8_parseBracket_110 (fun H locs hP1 hD1 hS => ?_)
              obtain ⟨S_153, eS_153⟩ : ∃ zq, zq = setI S_4 o 5 x_152 := ⟨_, rfl⟩
              have hP : va_P (dC, dI) vwCl (oW cq S_153) H := by rw [eS_153]; exact cP (oset t_6.1 hq_7 hD rfl (he_8_5 t_6.2) neI) hP1
              have hD : va_D A (oW cq S_153) := by rw [eS_153]; exact cD (oset t_6.1 hq_7 hD rfl (he_8_5 t_6.2) neI) hD1
              clear hP1 hD1
              have hIS_153 : oInv S_153 := by rw [eS_153]; exact oInv.I0 (k := 8) (lo := -2147483648) (hi := 2147483647) hIS_4 t_6.2 (by decide) rfl rfl rfl (iv_all _)
              have XS_153 : oX [805] S_4 S_153 := by rw [eS_153]; exact oX.I (k := 8) (key := 805) t_6.2 rfl (List.mem_singleton.mpr rfl)
              have X_154 : oX [803, 804, 805, 2063] Z S_153 := oX.st X_5 XS_153 (by decide)
              have g_155 : (oI S_153 o 4).toInt = (oI S_4 o 4).toInt := by rw [eS_153, setI_ne (by decide)]
              exact W.vret hx hb hr (fun t ht hW => ⟨⟨S_153, rfl, ⟨hIS_153, X_154⟩, ⟨by rw [ht]; exact hP, va_K.moved hW.alike hK, hD⟩⟩, hS.F ht⟩) hS.2.2 dX8_parseBracket_113
          · have dc_149 := c_nle (a := 0) (b := x_148.toInt) (by decide) rfl c_149
            refine lv_aload_n hx hb dX8_parseBracket_76 rfl (lv_at hl 0 rfl) ?_
            refine lv_bipush (v := 41) hx hb dX8_parseBracket_77 (by decide) ?_
            have hFc : ∀ q, va_A [] H.size q → A q := pu_free hS hA
            refine va_calli (va_runV (As := [.int 41]) (rest := []) ⟨hx, hb, hml, hown, hts⟩ (c_X8_sees l dC dI H.size cq S_4 hIS_4 o t_6 41) (cwV 1 hts gX8_parseBracket_X8_sees rfl rfl rfl (by decide +kernel) ⟨(Nat.le_of_ble_eq_true rfl), (Nat.le_of_ble_eq_true rfl)⟩) (pr_V (r := (RX8, TX8, 6)) hP hK hD q_7 8 rfl hq_7) rfl rfl hl.1 rfl (lv_room (Nat.le_of_ble_eq_true rfl)) dX8_parseBracket_79 ⟨(Nat.le_of_ble_eq_true rfl), (Nat.le_of_ble_eq_true rfl)⟩) hS (fun q _ h => hFc q h) hFc (fun r_157 u t H locs ht hvm w_156 hB hz1 hk1 hS => ?_)
            have hP := pu_keep hP hk1
            clear hk1 hz1 hvm hB ht hFc
            obtain ⟨hb_158, hx_159⟩ := w_156
            refine lv_if_eq (tgt := 98) hx hb dX8_parseBracket_82 (by decide) (fun c_160 => ?_) (fun c_160 => ?_)
            · have dc_160 := c_eq (a := r_157.toInt) (b := 0) rfl (by decide) c_160
              refine lv_aload_n hx hb dX8_parseBracket_98 rfl (lv_at hl 0 rfl) ?_
              refine va_get (D := (dC, dI)) (ci := 8) (v := .int (oI S_4 o 5)) (C := RX8) (T := TX8) (N := 6) hx hb hts in_wsX8_parseBracket_X8 hown hK hP q_7 hq_7 rfl 5 (by decide) (hts (.fieldLink RX8 28 "ShipOffice$Tape" "fault" "I") iw_X8_parseBracket_1) (fun _ h9 => h9) rfl dX8_parseBracket_99 ?_
              refine lv_topi (fun x_161 ex_161 => ?_)
              clear ex_161
              refine lv_if_ge (tgt := 113) hx hb dX8_parseBracket_102 (by decide) (fun c_162 => ?_) (fun c_162 => ?_)
              · have dc_162 := c_le (a := 0) (b := x_161.toInt) (by decide) rfl c_162
                exact W.vret hx hb hr (fun t ht hW => ⟨⟨S_4, rfl, ⟨hIS_4, X_5⟩, ⟨by rw [ht]; exact hP, va_K.moved hW.alike hK, hD⟩⟩, hS.F ht⟩) hS.2.2 dX8_parseBracket_113
              · have dc_162 := c_nle (a := 0) (b := x_161.toInt) (by decide) rfl c_162
                refine lv_aload_n hx hb dX8_parseBracket_105 rfl (lv_at hl 0 rfl) ?_
                refine lv_aload_n hx hb dX8_parseBracket_106 rfl (lv_at hl 0 rfl) ?_
                refine va_get (D := (dC, dI)) (ci := 8) (v := .int (oI S_4 o 4)) (C := RX8) (T := TX8) (N := 6) hx hb hts in_wsX8_parseBracket_X8 hown hK hP q_7 hq_7 rfl 4 (by decide) (hts (.fieldLink RX8 22 "ShipOffice$Tape" "at" "I") iw_X8_parseBracket_2) (fun _ h9 => h9) rfl dX8_parseBracket_107 ?_
                refine lv_topi (fun x_163 ex_163 => ?_)
                have hx_163 : 0 ≤ x_163.toInt ∧ x_163.toInt ≤ 60 := iv_of ex_163 (oInv.iv hIS_4 t_6.2 rfl rfl)
                have gx_163 : x_163.toInt = (oI S_4 o 4).toInt := iv_to ex_163
                clear ex_163
                refine va_put (D := (dC, dI)) (ci := 8) (v := .int x_163) (ty := .int) (C := RX8) (T := TX8) (N := 6) hx hb hts in_wsX8_parseBracket_X8 tyX8 tyX8_ok nmX8 hown hK hP hD hS q_7 hq_7 rfl 5 (by decide) (hts (.fieldLink RX8 28 "ShipOffice$Tape" "fault" "I") iw_X8_parseBracket_1) (fun _ h9 => h9) rfl (by decide +kernel) rfl rfl (Nat.le_of_ble_eq_true rfl) dX8_parseBracket_110 (fun H locs hP1 hD1 hS => ?_)
                obtain ⟨S_164, eS_164⟩ : ∃ zq, zq = setI S_4 o 5 x_163 := ⟨_, rfl⟩
                have hP : va_P (dC, dI) vwCl (oW cq S_164) H := by rw [eS_164]; exact cP (oset t_6.1 hq_7 hD rfl (he_8_5 t_6.2) neI) hP1
                have hD : va_D A (oW cq S_164) := by rw [eS_164]; exact cD (oset t_6.1 hq_7 hD rfl (he_8_5 t_6.2) neI) hD1
                clear hP1 hD1
                have hIS_164 : oInv S_164 := by rw [eS_164]; exact oInv.I0 (k := 8) (lo := -2147483648) (hi := 2147483647) hIS_4 t_6.2 (by decide) rfl rfl rfl (iv_all _)
                have XS_164 : oX [805] S_4 S_164 := by rw [eS_164]; exact oX.I (k := 8) (key := 805) t_6.2 rfl (List.mem_singleton.mpr rfl)
                have X_165 : oX [803, 804, 805, 2063] Z S_164 := oX.st X_5 XS_164 (by decide)
                have g_166 : (oI S_164 o 4).toInt = (oI S_4 o 4).toInt := by rw [eS_164, setI_ne (by decide)]
                exact W.vret hx hb hr (fun t ht hW => ⟨⟨S_164, rfl, ⟨hIS_164, X_165⟩, ⟨by rw [ht]; exact hP, va_K.moved hW.alike hK, hD⟩⟩, hS.F ht⟩) hS.2.2 dX8_parseBracket_113
            · have dc_160 := c_ne (a := r_157.toInt) (b := 0) rfl (by decide) c_160
              have hi_167 := Or.resolve_left hx_159 c_160
              refine lv_aload_n hx hb dX8_parseBracket_85 rfl (lv_at hl 0 rfl) ?_
              refine lv_dup hx hb dX8_parseBracket_86 rfl ?_
              refine va_get (D := (dC, dI)) (ci := 8) (v := .int (oI S_4 o 4)) (C := RX8) (T := TX8) (N := 6) hx hb hts in_wsX8_parseBracket_X8 hown hK hP q_7 hq_7 rfl 4 (by decide) (hts (.fieldLink RX8 22 "ShipOffice$Tape" "at" "I") iw_X8_parseBracket_2) (fun _ h9 => h9) rfl dX8_parseBracket_87 ?_
              refine lv_topi (fun x_168 ex_168 => ?_)
              have hx_168 : 0 ≤ x_168.toInt ∧ x_168.toInt ≤ 60 := iv_of ex_168 (oInv.iv hIS_4 t_6.2 rfl rfl)
              have gx_168 : x_168.toInt = (oI S_4 o 4).toInt := iv_to ex_168
              clear ex_168
              refine lv_iconst (v := 1) hx hb dX8_parseBracket_90 (by decide) ?_
              refine lv_iadd hx hb dX8_parseBracket_91 ?_
              refine lv_topi (fun x_169 ex_169 => ?_)
              have hx_169 : x_169.toInt = x_168.toInt + 1 := (iv_to ex_169).trans (ad_i rfl (by decide) (by omega) (by omega))
              clear ex_169
              refine va_put (D := (dC, dI)) (ci := 8) (v := .int x_169) (ty := .int) (C := RX8) (T := TX8) (N := 6) hx hb hts in_wsX8_parseBracket_X8 tyX8 tyX8_ok nmX8 hown hK hP hD hS q_7 hq_7 rfl 4 (by decide) (hts (.fieldLink RX8 22 "ShipOffice$Tape" "at" "I") iw_X8_parseBracket_2) (fun _ h9 => h9) rfl (by decide +kernel) rfl rfl (Nat.le_of_ble_eq_true rfl) dX8_parseBracket_92 (fun H locs hP1 hD1 hS => ?_)
              obtain ⟨S_170, eS_170⟩ : ∃ zq, zq = setI S_4 o 4 x_169 := ⟨_, rfl⟩
              have hP : va_P (dC, dI) vwCl (oW cq S_170) H := by rw [eS_170]; exact cP (oset t_6.1 hq_7 hD rfl (he_8_4 t_6.2) neI) hP1
              have hD : va_D A (oW cq S_170) := by rw [eS_170]; exact cD (oset t_6.1 hq_7 hD rfl (he_8_4 t_6.2) neI) hD1
              clear hP1 hD1
              have hIS_170 : oInv S_170 := by rw [eS_170]; exact oInv.I0 (k := 8) (lo := 0) (hi := 60) hIS_4 t_6.2 (by decide) rfl rfl rfl (by omega)
              have XS_170 : oX [804] S_4 S_170 := by rw [eS_170]; exact oX.I (k := 8) (key := 804) t_6.2 rfl (List.mem_singleton.mpr rfl)
              have X_171 : oX [803, 804, 805, 2063] Z S_170 := oX.st X_5 XS_170 (by decide)
              have g_172 : (oI S_170 o 4).toInt = x_169.toInt := by rw [eS_170, setI_same]
              refine lv_goto (tgt := 113) hx hb dX8_parseBracket_95 (by decide) ?_
              exact W.vret hx hb hr (fun t ht hW => ⟨⟨S_170, rfl, ⟨hIS_170, X_171⟩, ⟨by rw [ht]; exact hP, va_K.moved hW.alike hK, hD⟩⟩, hS.F ht⟩) hS.2.2 dX8_parseBracket_113
        · have dc_147 := c_ne (a := r_144.toInt) (b := 0) rfl (by decide) c_147
          have hi_173 := Or.resolve_left hx_146 c_147
          refine lv_aload_n hx hb dX8_parseBracket_39 rfl (lv_at hl 0 rfl) ?_
          obtain ⟨b_174, hb_174⟩ := oInv.nn (i := 0) hIS_4 t_6 rfl
          refine va_get (D := (dC, dI)) (ci := 8) (v := .ref b_174) (C := RX8) (T := TX8) (N := 6) hx hb hts in_wsX8_parseBracket_X8 hown hK hP q_7 hq_7 rfl 0 (by decide) (hts (.fieldLink RX8 9 "ShipOffice$Tape" "bytes" "[I") iw_X8_parseBracket_3) (fun _ h9 => h9) (o_rd hb_174) dX8_parseBracket_40 ?_
          have tb_174 : oty S_4 b_174 160 := oInv.rd hIS_4 t_6.2 hb_174 rfl rfl
          refine lv_aload_n hx hb dX8_parseBracket_43 rfl (lv_at hl 0 rfl) ?_
          refine va_get (D := (dC, dI)) (ci := 8) (v := .int (oI S_4 o 4)) (C := RX8) (T := TX8) (N := 6) hx hb hts in_wsX8_parseBracket_X8 hown hK hP q_7 hq_7 rfl 4 (by decide) (hts (.fieldLink RX8 22 "ShipOffice$Tape" "at" "I") iw_X8_parseBracket_2) (fun _ h9 => h9) rfl dX8_parseBracket_44 ?_
          refine lv_topi (fun x_175 ex_175 => ?_)
          have hx_175 : 0 ≤ x_175.toInt ∧ x_175.toInt ≤ 60 := iv_of ex_175 (oInv.iv hIS_4 t_6.2 rfl rfl)
          have gx_175 : x_175.toInt = (oI S_4 o 4).toInt := iv_to ex_175
          clear ex_175
          obtain ⟨q_176, hq_176⟩ := og (cq := cq) tb_174.1 (oE_a1 (n := 60) tb_174.2 (by decide))
          refine va_iald hx hb hK hP q_176 0 hq_176 rfl (vp_in_iff.mpr (by omega)) dX8_parseBracket_47 ?_
          refine lv_topi (fun x_177 ex_177 => ?_)
          clear ex_177
          refine lv_istore_n (lv' := [(2, .int x_177), (0, .ref o), (1, .int x1)]) hx hb dX8_parseBracket_48 rfl hl (by decide) rfl (fun ls hl => ?_)
          refine lv_aload_n hx hb dX8_parseBracket_49 rfl (lv_at hl 1 rfl) ?_
          refine lv_dup hx hb dX8_parseBracket_50 rfl ?_
          refine va_get (D := (dC, dI)) (ci := 8) (v := .int (oI S_4 o 4)) (C := RX8) (T := TX8) (N := 6) hx hb hts in_wsX8_parseBracket_X8 hown hK hP q_7 hq_7 rfl 4 (by decide) (hts (.fieldLink RX8 22 "ShipOffice$Tape" "at" "I") iw_X8_parseBracket_2) (fun _ h9 => h9) rfl dX8_parseBracket_51 ?_
          refine lv_topi (fun x_178 ex_178 => ?_)
          have hx_178 : 0 ≤ x_178.toInt ∧ x_178.toInt ≤ 60 := iv_of ex_178 (oInv.iv hIS_4 t_6.2 rfl rfl)
          have gx_178 : x_178.toInt = (oI S_4 o 4).toInt := iv_to ex_178
          clear ex_178
          refine lv_iconst (v := 1) hx hb dX8_parseBracket_54 (by decide) ?_
          refine lv_iadd hx hb dX8_parseBracket_55 ?_
          refine lv_topi (fun x_179 ex_179 => ?_)
          have hx_179 : x_179.toInt = x_178.toInt + 1 := (iv_to ex_179).trans (ad_i rfl (by decide) (by omega) (by omega))
          clear ex_179
          refine va_put (D := (dC, dI)) (ci := 8) (v := .int x_179) (ty := .int) (C := RX8) (T := TX8) (N := 6) hx hb hts in_wsX8_parseBracket_X8 tyX8 tyX8_ok nmX8 hown hK hP hD hS q_7 hq_7 rfl 4 (by decide) (hts (.fieldLink RX8 22 "ShipOffice$Tape" "at" "I") iw_X8_parseBracket_2) (fun _ h9 => h9) rfl (by decide +kernel) rfl rfl (Nat.le_of_ble_eq_true rfl) dX8_parseBracket_56 (fun H locs hP1 hD1 hS => ?_)
          obtain ⟨S_180, eS_180⟩ : ∃ zq, zq = setI S_4 o 4 x_179 := ⟨_, rfl⟩
          have hP : va_P (dC, dI) vwCl (oW cq S_180) H := by rw [eS_180]; exact cP (oset t_6.1 hq_7 hD rfl (he_8_4 t_6.2) neI) hP1
          have hD : va_D A (oW cq S_180) := by rw [eS_180]; exact cD (oset t_6.1 hq_7 hD rfl (he_8_4 t_6.2) neI) hD1
          clear hP1 hD1
          have hIS_180 : oInv S_180 := by rw [eS_180]; exact oInv.I0 (k := 8) (lo := 0) (hi := 60) hIS_4 t_6.2 (by decide) rfl rfl rfl (by omega)
          have XS_180 : oX [804] S_4 S_180 := by rw [eS_180]; exact oX.I (k := 8) (key := 804) t_6.2 rfl (List.mem_singleton.mpr rfl)
          have X_181 : oX [803, 804, 805, 2063] Z S_180 := oX.st X_5 XS_180 (by decide)
          have g_182 : (oI S_180 o 4).toInt = x_179.toInt := by rw [eS_180, setI_same]
          refine lv_aload_n hx hb dX8_parseBracket_59 rfl (lv_at hl 1 rfl) ?_
          refine lv_iload_n hx hb dX8_parseBracket_60 rfl (lv_at hl 2 rfl) ?_
          have t_183 : oty S_180 o 8 := (oX.ty XS_180 t_6)
          have hFc := o_free hD hS hA
          obtain ⟨q_184, hq_184⟩ := og (cq := cq) t_183.1 (oE_8 t_183.2)
          refine va_callv (va_runV (As := [.int x1]) (rest := []) ⟨hx, hb, hml, hown, hts⟩ (c_X8_parseSum_1 l dC dI H.size tL tS tG cq S_180 hIS_180 o t_183 x1 (by omega)) (cwV 1 hts gX8_parseBracket_X8_parseSum rfl rfl rfl (by decide +kernel) ⟨(Nat.le_of_ble_eq_true rfl), (Nat.le_of_ble_eq_true rfl)⟩) (pr_VO (r := (RX8, TX8, 6)) hP hK hD q_184 8 rfl hq_184 (hZ.go hS hFc)) rfl rfl hl.1 rfl (lv_room (Nat.le_of_ble_eq_true rfl)) dX8_parseBracket_61 ⟨(Nat.le_of_ble_eq_true rfl), (Nat.le_of_ble_eq_true rfl)⟩) hS (fun q _ h => hFc q h) hFc (fun u t H locs ht hvm w_185 hB hz1 hk1 hS => ?_)
          obtain ⟨S_187, rfl⟩ : ∃ z, z = u := ⟨_, rfl⟩
          obtain ⟨hP1, hK1, hD1⟩ := hB
          rw [ht] at hP1
          have hP : va_P (dC, dI) vwCl (oW cq S_187) H := hP1
          have hD : va_D A (oW cq S_187) := hD1.weaken (fun _ _ _ h => hFc _ h)
          clear hP1 hK1 hD1 hk1 hz1 hvm ht hFc
          obtain ⟨hIS_187, XS_187⟩ := w_185
          have X_188 : oX [803, 804, 805, 2063] Z S_187 := oX.st X_181 XS_187 (by decide)
          refine lv_aload_n hx hb dX8_parseBracket_64 rfl (lv_at hl 1 rfl) ?_
          refine lv_iload_n hx hb dX8_parseBracket_65 rfl (lv_at hl 0 rfl) ?_
          have t_189 : oty S_187 o 8 := (oX.ty XS_187 t_183)
          have hFc := o_free hD hS hA
          obtain ⟨q_190, hq_190⟩ := og (cq := cq) t_189.1 (oE_8 t_189.2)
          refine va_callv (va_runV (As := [.int x_177]) (rest := []) ⟨hx, hb, hml, hown, hts⟩ (c_X8_emitSign l dC dI H.size tL tS tG cq S_187 hIS_187 o t_189 x_177) (cwV 1 hts gX8_parseBracket_X8_emitSign rfl rfl rfl (by decide +kernel) ⟨(Nat.le_of_ble_eq_true rfl), (Nat.le_of_ble_eq_true rfl)⟩) (pr_VO (r := (RX8, TX8, 6)) hP hK hD q_190 8 rfl hq_190 (hZ.go hS hFc)) rfl rfl hl.1 rfl (lv_room (Nat.le_of_ble_eq_true rfl)) dX8_parseBracket_66 ⟨(Nat.le_of_ble_eq_true rfl), (Nat.le_of_ble_eq_true rfl)⟩) hS (fun q _ h => hFc q h) hFc (fun u t H locs ht hvm w_191 hB hz1 hk1 hS => ?_)
          obtain ⟨S_193, rfl⟩ : ∃ z, z = u := ⟨_, rfl⟩
          obtain ⟨hP1, hK1, hD1⟩ := hB
          rw [ht] at hP1
          have hP : va_P (dC, dI) vwCl (oW cq S_193) H := hP1
          have hD : va_D A (oW cq S_193) := hD1.weaken (fun _ _ _ h => hFc _ h)
          clear hP1 hK1 hD1 hk1 hz1 hvm ht hFc
          obtain ⟨hIS_193, XS_193⟩ := w_191
          have X_194 : oX [803, 804, 805, 2063] Z S_193 := oX.st X_188 XS_193 (by decide)
          refine lv_aload_n hx hb dX8_parseBracket_69 rfl (lv_at hl 1 rfl) ?_
          have t_195 : oty S_193 o 8 := (oX.ty XS_193 t_189)
          obtain ⟨q_196, hq_196⟩ := og (cq := cq) t_195.1 (oE_8 t_195.2)
          refine va_get (D := (dC, dI)) (ci := 8) (v := .int (oI S_193 o 5)) (C := RX8) (T := TX8) (N := 6) hx hb hts in_wsX8_parseBracket_X8 hown hK hP q_196 hq_196 rfl 5 (by decide) (hts (.fieldLink RX8 28 "ShipOffice$Tape" "fault" "I") iw_X8_parseBracket_1) (fun _ h9 => h9) rfl dX8_parseBracket_70 ?_
          refine lv_topi (fun x_197 ex_197 => ?_)
          clear ex_197
          refine lv_if_ge (tgt := 98) hx hb dX8_parseBracket_73 (by decide) (fun c_198 => ?_) (fun c_198 => ?_)
          · have dc_198 := c_le (a := 0) (b := x_197.toInt) (by decide) rfl c_198
            refine lv_aload_n hx hb dX8_parseBracket_98 rfl (lv_at hl 1 rfl) ?_
            refine va_get (D := (dC, dI)) (ci := 8) (v := .int (oI S_193 o 5)) (C := RX8) (T := TX8) (N := 6) hx hb hts in_wsX8_parseBracket_X8 hown hK hP q_196 hq_196 rfl 5 (by decide) (hts (.fieldLink RX8 28 "ShipOffice$Tape" "fault" "I") iw_X8_parseBracket_1) (fun _ h9 => h9) rfl dX8_parseBracket_99 ?_
            refine lv_topi (fun x_199 ex_199 => ?_)
            clear ex_199
            refine lv_if_ge (tgt := 113) hx hb dX8_parseBracket_102 (by decide) (fun c_200 => ?_) (fun c_200 => ?_)
            · have dc_200 := c_le (a := 0) (b := x_199.toInt) (by decide) rfl c_200
              exact W.vret hx hb hr (fun t ht hW => ⟨⟨S_193, rfl, ⟨hIS_193, X_194⟩, ⟨by rw [ht]; exact hP, va_K.moved hW.alike hK, hD⟩⟩, hS.F ht⟩) hS.2.2 dX8_parseBracket_113
            · have dc_200 := c_nle (a := 0) (b := x_199.toInt) (by decide) rfl c_200
              refine lv_aload_n hx hb dX8_parseBracket_105 rfl (lv_at hl 1 rfl) ?_
              refine lv_aload_n hx hb dX8_parseBracket_106 rfl (lv_at hl 1 rfl) ?_
              refine va_get (D := (dC, dI)) (ci := 8) (v := .int (oI S_193 o 4)) (C := RX8) (T := TX8) (N := 6) hx hb hts in_wsX8_parseBracket_X8 hown hK hP q_196 hq_196 rfl 4 (by decide) (hts (.fieldLink RX8 22 "ShipOffice$Tape" "at" "I") iw_X8_parseBracket_2) (fun _ h9 => h9) rfl dX8_parseBracket_107 ?_
              refine lv_topi (fun x_201 ex_201 => ?_)
              have hx_201 : 0 ≤ x_201.toInt ∧ x_201.toInt ≤ 60 := iv_of ex_201 (oInv.iv hIS_193 t_195.2 rfl rfl)
              have gx_201 : x_201.toInt = (oI S_193 o 4).toInt := iv_to ex_201
              clear ex_201
              refine va_put (D := (dC, dI)) (ci := 8) (v := .int x_201) (ty := .int) (C := RX8) (T := TX8) (N := 6) hx hb hts in_wsX8_parseBracket_X8 tyX8 tyX8_ok nmX8 hown hK hP hD hS q_196 hq_196 rfl 5 (by decide) (hts (.fieldLink RX8 28 "ShipOffice$Tape" "fault" "I") iw_X8_parseBracket_1) (fun _ h9 => h9) rfl (by decide +kernel) rfl rfl (Nat.le_of_ble_eq_true rfl) dX8_parseBracket_110 (fun H locs hP1 hD1 hS => ?_)
              obtain ⟨S_202, eS_202⟩ : ∃ zq, zq = setI S_193 o 5 x_201 := ⟨_, rfl⟩
              have hP : va_P (dC, dI) vwCl (oW cq S_202) H := by rw [eS_202]; exact cP (oset t_195.1 hq_196 hD rfl (he_8_5 t_195.2) neI) hP1
              have hD : va_D A (oW cq S_202) := by rw [eS_202]; exact cD (oset t_195.1 hq_196 hD rfl (he_8_5 t_195.2) neI) hD1
              clear hP1 hD1
              have hIS_202 : oInv S_202 := by rw [eS_202]; exact oInv.I0 (k := 8) (lo := -2147483648) (hi := 2147483647) hIS_193 t_195.2 (by decide) rfl rfl rfl (iv_all _)
              have XS_202 : oX [805] S_193 S_202 := by rw [eS_202]; exact oX.I (k := 8) (key := 805) t_195.2 rfl (List.mem_singleton.mpr rfl)
              have X_203 : oX [803, 804, 805, 2063] Z S_202 := oX.st X_194 XS_202 (by decide)
              have g_204 : (oI S_202 o 4).toInt = (oI S_193 o 4).toInt := by rw [eS_202, setI_ne (by decide)]
              exact W.vret hx hb hr (fun t ht hW => ⟨⟨S_202, rfl, ⟨hIS_202, X_203⟩, ⟨by rw [ht]; exact hP, va_K.moved hW.alike hK, hD⟩⟩, hS.F ht⟩) hS.2.2 dX8_parseBracket_113
          · have dc_198 := c_nle (a := 0) (b := x_197.toInt) (by decide) rfl c_198
            refine lv_aload_n hx hb dX8_parseBracket_76 rfl (lv_at hl 1 rfl) ?_
            refine lv_bipush (v := 41) hx hb dX8_parseBracket_77 (by decide) ?_
            have hFc : ∀ q, va_A [] H.size q → A q := pu_free hS hA
            refine va_calli (va_runV (As := [.int 41]) (rest := []) ⟨hx, hb, hml, hown, hts⟩ (c_X8_sees l dC dI H.size cq S_193 hIS_193 o t_195 41) (cwV 1 hts gX8_parseBracket_X8_sees rfl rfl rfl (by decide +kernel) ⟨(Nat.le_of_ble_eq_true rfl), (Nat.le_of_ble_eq_true rfl)⟩) (pr_V (r := (RX8, TX8, 6)) hP hK hD q_196 8 rfl hq_196) rfl rfl hl.1 rfl (lv_room (Nat.le_of_ble_eq_true rfl)) dX8_parseBracket_79 ⟨(Nat.le_of_ble_eq_true rfl), (Nat.le_of_ble_eq_true rfl)⟩) hS (fun q _ h => hFc q h) hFc (fun r_206 u t H locs ht hvm w_205 hB hz1 hk1 hS => ?_)
            have hP := pu_keep hP hk1
            clear hk1 hz1 hvm hB ht hFc
            obtain ⟨hb_207, hx_208⟩ := w_205
            refine lv_if_eq (tgt := 98) hx hb dX8_parseBracket_82 (by decide) (fun c_209 => ?_) (fun c_209 => ?_)
            · have dc_209 := c_eq (a := r_206.toInt) (b := 0) rfl (by decide) c_209
              refine lv_aload_n hx hb dX8_parseBracket_98 rfl (lv_at hl 1 rfl) ?_
              refine va_get (D := (dC, dI)) (ci := 8) (v := .int (oI S_193 o 5)) (C := RX8) (T := TX8) (N := 6) hx hb hts in_wsX8_parseBracket_X8 hown hK hP q_196 hq_196 rfl 5 (by decide) (hts (.fieldLink RX8 28 "ShipOffice$Tape" "fault" "I") iw_X8_parseBracket_1) (fun _ h9 => h9) rfl dX8_parseBracket_99 ?_
              refine lv_topi (fun x_210 ex_210 => ?_)
              clear ex_210
              refine lv_if_ge (tgt := 113) hx hb dX8_parseBracket_102 (by decide) (fun c_211 => ?_) (fun c_211 => ?_)
              · have dc_211 := c_le (a := 0) (b := x_210.toInt) (by decide) rfl c_211
                exact W.vret hx hb hr (fun t ht hW => ⟨⟨S_193, rfl, ⟨hIS_193, X_194⟩, ⟨by rw [ht]; exact hP, va_K.moved hW.alike hK, hD⟩⟩, hS.F ht⟩) hS.2.2 dX8_parseBracket_113
              · have dc_211 := c_nle (a := 0) (b := x_210.toInt) (by decide) rfl c_211
                refine lv_aload_n hx hb dX8_parseBracket_105 rfl (lv_at hl 1 rfl) ?_
                refine lv_aload_n hx hb dX8_parseBracket_106 rfl (lv_at hl 1 rfl) ?_
                refine va_get (D := (dC, dI)) (ci := 8) (v := .int (oI S_193 o 4)) (C := RX8) (T := TX8) (N := 6) hx hb hts in_wsX8_parseBracket_X8 hown hK hP q_196 hq_196 rfl 4 (by decide) (hts (.fieldLink RX8 22 "ShipOffice$Tape" "at" "I") iw_X8_parseBracket_2) (fun _ h9 => h9) rfl dX8_parseBracket_107 ?_
                refine lv_topi (fun x_212 ex_212 => ?_)
                have hx_212 : 0 ≤ x_212.toInt ∧ x_212.toInt ≤ 60 := iv_of ex_212 (oInv.iv hIS_193 t_195.2 rfl rfl)
                have gx_212 : x_212.toInt = (oI S_193 o 4).toInt := iv_to ex_212
                clear ex_212
                refine va_put (D := (dC, dI)) (ci := 8) (v := .int x_212) (ty := .int) (C := RX8) (T := TX8) (N := 6) hx hb hts in_wsX8_parseBracket_X8 tyX8 tyX8_ok nmX8 hown hK hP hD hS q_196 hq_196 rfl 5 (by decide) (hts (.fieldLink RX8 28 "ShipOffice$Tape" "fault" "I") iw_X8_parseBracket_1) (fun _ h9 => h9) rfl (by decide +kernel) rfl rfl (Nat.le_of_ble_eq_true rfl) dX8_parseBracket_110 (fun H locs hP1 hD1 hS => ?_)
                obtain ⟨S_213, eS_213⟩ : ∃ zq, zq = setI S_193 o 5 x_212 := ⟨_, rfl⟩
                have hP : va_P (dC, dI) vwCl (oW cq S_213) H := by rw [eS_213]; exact cP (oset t_195.1 hq_196 hD rfl (he_8_5 t_195.2) neI) hP1
                have hD : va_D A (oW cq S_213) := by rw [eS_213]; exact cD (oset t_195.1 hq_196 hD rfl (he_8_5 t_195.2) neI) hD1
                clear hP1 hD1
                have hIS_213 : oInv S_213 := by rw [eS_213]; exact oInv.I0 (k := 8) (lo := -2147483648) (hi := 2147483647) hIS_193 t_195.2 (by decide) rfl rfl rfl (iv_all _)
                have XS_213 : oX [805] S_193 S_213 := by rw [eS_213]; exact oX.I (k := 8) (key := 805) t_195.2 rfl (List.mem_singleton.mpr rfl)
                have X_214 : oX [803, 804, 805, 2063] Z S_213 := oX.st X_194 XS_213 (by decide)
                have g_215 : (oI S_213 o 4).toInt = (oI S_193 o 4).toInt := by rw [eS_213, setI_ne (by decide)]
                exact W.vret hx hb hr (fun t ht hW => ⟨⟨S_213, rfl, ⟨hIS_213, X_214⟩, ⟨by rw [ht]; exact hP, va_K.moved hW.alike hK, hD⟩⟩, hS.F ht⟩) hS.2.2 dX8_parseBracket_113
            · have dc_209 := c_ne (a := r_206.toInt) (b := 0) rfl (by decide) c_209
              have hi_216 := Or.resolve_left hx_208 c_209
              refine lv_aload_n hx hb dX8_parseBracket_85 rfl (lv_at hl 1 rfl) ?_
              refine lv_dup hx hb dX8_parseBracket_86 rfl ?_
              refine va_get (D := (dC, dI)) (ci := 8) (v := .int (oI S_193 o 4)) (C := RX8) (T := TX8) (N := 6) hx hb hts in_wsX8_parseBracket_X8 hown hK hP q_196 hq_196 rfl 4 (by decide) (hts (.fieldLink RX8 22 "ShipOffice$Tape" "at" "I") iw_X8_parseBracket_2) (fun _ h9 => h9) rfl dX8_parseBracket_87 ?_
              refine lv_topi (fun x_217 ex_217 => ?_)
              have hx_217 : 0 ≤ x_217.toInt ∧ x_217.toInt ≤ 60 := iv_of ex_217 (oInv.iv hIS_193 t_195.2 rfl rfl)
              have gx_217 : x_217.toInt = (oI S_193 o 4).toInt := iv_to ex_217
              clear ex_217
              refine lv_iconst (v := 1) hx hb dX8_parseBracket_90 (by decide) ?_
              refine lv_iadd hx hb dX8_parseBracket_91 ?_
              refine lv_topi (fun x_218 ex_218 => ?_)
              have hx_218 : x_218.toInt = x_217.toInt + 1 := (iv_to ex_218).trans (ad_i rfl (by decide) (by omega) (by omega))
              clear ex_218
              refine va_put (D := (dC, dI)) (ci := 8) (v := .int x_218) (ty := .int) (C := RX8) (T := TX8) (N := 6) hx hb hts in_wsX8_parseBracket_X8 tyX8 tyX8_ok nmX8 hown hK hP hD hS q_196 hq_196 rfl 4 (by decide) (hts (.fieldLink RX8 22 "ShipOffice$Tape" "at" "I") iw_X8_parseBracket_2) (fun _ h9 => h9) rfl (by decide +kernel) rfl rfl (Nat.le_of_ble_eq_true rfl) dX8_parseBracket_92 (fun H locs hP1 hD1 hS => ?_)
              obtain ⟨S_219, eS_219⟩ : ∃ zq, zq = setI S_193 o 4 x_218 := ⟨_, rfl⟩
              have hP : va_P (dC, dI) vwCl (oW cq S_219) H := by rw [eS_219]; exact cP (oset t_195.1 hq_196 hD rfl (he_8_4 t_195.2) neI) hP1
              have hD : va_D A (oW cq S_219) := by rw [eS_219]; exact cD (oset t_195.1 hq_196 hD rfl (he_8_4 t_195.2) neI) hD1
              clear hP1 hD1
              have hIS_219 : oInv S_219 := by rw [eS_219]; exact oInv.I0 (k := 8) (lo := 0) (hi := 60) hIS_193 t_195.2 (by decide) rfl rfl rfl (by omega)
              have XS_219 : oX [804] S_193 S_219 := by rw [eS_219]; exact oX.I (k := 8) (key := 804) t_195.2 rfl (List.mem_singleton.mpr rfl)
              have X_220 : oX [803, 804, 805, 2063] Z S_219 := oX.st X_194 XS_219 (by decide)
              have g_221 : (oI S_219 o 4).toInt = x_218.toInt := by rw [eS_219, setI_same]
              refine lv_goto (tgt := 113) hx hb dX8_parseBracket_95 (by decide) ?_
              exact W.vret hx hb hr (fun t ht hW => ⟨⟨S_219, rfl, ⟨hIS_219, X_220⟩, ⟨by rw [ht]; exact hP, va_K.moved hW.alike hK, hD⟩⟩, hS.F ht⟩) hS.2.2 dX8_parseBracket_113
set_option maxHeartbeats 4000000 in
set_option maxRecDepth 100000 in
theorem c_X8_parseUnit_0 (l : Launch) (dC : Nat → ClassId) (dI : Nat → Nat → Nat) (sz : Nat) (tL tS tG : Nat) (cq : Nat → ClassId) (Z : oS) (gI : oInv Z) (o : Nat) (to : oty Z o 8) (x1 : Int32) (hx1 : 0 ≤ x1.toInt ∧ x1.toInt ≤ 0) : Met l yX8_parseUnit wsX8_parseUnit ({ frames := 22, cells := 0, slots := 0, locals := 493 }) (va_Pc [.ref o, .int x1] (pcO (dC, dI) (oT cq) (oW cq Z) sz tL tS tG (oW cq Z))) (va_Qv (fun (u : oS) => oInv u ∧ oX [803, 804, 805, 2063] Z u) (fun u t => va_P (dC, dI) vwCl (oW cq u) t.heap ∧ va_K (dC, dI) vwCl (oT cq) t ∧ va_D (va_A (oW cq Z) sz) (oW cq u)) (va_A (oW cq Z) sz)) 0 0 (va_A (oW cq Z) sz) := by
  refine Met.ofW (cc := cX8_parseUnit) (maxL := 3) (ret := none) (by decide) rfl ?_
  intro p e s m args below meth c s₁ B hml hv
  obtain ⟨rfl, ⟨hsz, hP, hK, hD0⟩, hZ⟩ := hv
  have hx := B.exec
  have hb := B.bytes
  have hr := B.returns
  have hts := atoms_spec (ws := wsX8_parseUnit) B.pre
  have hown : s.vm.findClass RX8 = some m.cls := findClass_of_methodNamed B.named
  have hlocks := B.notSynchronized
  subst hsz
  have hD := hD0.self (sz := s.heap.size)
  generalize hAe : va_A (oW cq Z) s.heap.size = A at hD hZ ⊢
  have hA : ∀ q : Nat, s.heap.size ≤ q → A q := fun q h => by rw [← hAe]; exact Or.inr h
  have hS : va_S A s.heap s.heap [] := va_S.rf
  have hP : va_P (dC, dI) vwCl (oW cq Z) s.heap := hP
  have hl := lv_entry ([.ref o, .int x1]) (n := 3) (Nat.le_of_ble_eq_true rfl)
  rw [lg_entry_eq]
  generalize (lg_sl ([.ref o, .int x1]) ++ List.replicate (3 - (lg_sl ([.ref o, .int x1])).length) Slot.unset).toArray = ls at hl ⊢
  have hl : lv_has ls 3 [(0, .ref o), (1, .int x1)] := hl
  refine lv_aload_n hx hb dX8_parseUnit_0 rfl (lv_at hl 0 rfl) ?_
  have hFc : ∀ q, va_A [] s.heap.size q → A q := pu_free hS hA
  obtain ⟨q_1, hq_1⟩ := og (cq := cq) to.1 (oE_8 to.2)
  refine va_calli (va_runV (As := []) (rest := []) ⟨hx, hb, hml, hown, hts⟩ (c_X8_letterHere l dC dI s.heap.size tL tS tG cq Z gI o to) (cwV 0 hts gX8_parseUnit_X8_letterHere rfl rfl rfl (by decide +kernel) ⟨(Nat.le_of_ble_eq_true rfl), (Nat.le_of_ble_eq_true rfl)⟩) (pr_VO (r := (RX8, TX8, 6)) hP hK hD q_1 8 rfl hq_1 (hZ.go hS hFc)) rfl rfl hl.1 rfl (lv_room (Nat.le_of_ble_eq_true rfl)) dX8_parseUnit_1 ⟨(Nat.le_of_ble_eq_true rfl), (Nat.le_of_ble_eq_true rfl)⟩) hS (fun q _ h => hFc q h) hFc (fun r_3 u t H locs ht hvm w_2 hB hz1 hk1 hS => ?_)
  have hP := pu_keep hP hk1
  clear hk1 hz1 hvm hB ht hFc
  obtain ⟨hb_4, hx_5⟩ := w_2
  refine lv_istore_n (lv' := [(2, .int r_3), (0, .ref o), (1, .int x1)]) hx hb dX8_parseUnit_4 rfl hl (by decide) rfl (fun ls hl => ?_)
  refine lv_aload_n hx hb dX8_parseUnit_5 rfl (lv_at hl 1 rfl) ?_
  have hFc : ∀ q, va_A [] H.size q → A q := pu_free hS hA
  refine va_calli (va_runV (As := []) (rest := []) ⟨hx, hb, hml, hown, hts⟩ (c_X8_seesDigit l dC dI H.size cq Z gI o to) (cwV 0 hts gX8_parseUnit_X8_seesDigit rfl rfl rfl (by decide +kernel) ⟨(Nat.le_of_ble_eq_true rfl), (Nat.le_of_ble_eq_true rfl)⟩) (pr_V (r := (RX8, TX8, 6)) hP hK hD q_1 8 rfl hq_1) rfl rfl hl.1 rfl (lv_room (Nat.le_of_ble_eq_true rfl)) dX8_parseUnit_6 ⟨(Nat.le_of_ble_eq_true rfl), (Nat.le_of_ble_eq_true rfl)⟩) hS (fun q _ h => hFc q h) hFc (fun r_7 u t H locs ht hvm w_6 hB hz1 hk1 hS => ?_)
  have hP := pu_keep hP hk1
  clear hk1 hz1 hvm hB ht hFc
  obtain ⟨hb_8, hx_9⟩ := w_6
  refine lv_if_eq (tgt := 19) hx hb dX8_parseUnit_9 (by decide) (fun c_10 => ?_) (fun c_10 => ?_)
  · have dc_10 := c_eq (a := r_7.toInt) (b := 0) rfl (by decide) c_10
    refine lv_iload_n hx hb dX8_parseUnit_19 rfl (lv_at hl 0 rfl) ?_
    refine lv_if_lt (tgt := 43) hx hb dX8_parseUnit_20 (by decide) (fun c_11 => ?_) (fun c_11 => ?_)
    · have dc_11 := c_lt (a := r_3.toInt) (b := 0) rfl (by decide) c_11
      refine lv_aload_n hx hb dX8_parseUnit_43 rfl (lv_at hl 1 rfl) ?_
      refine lv_bipush (v := 40) hx hb dX8_parseUnit_44 (by decide) ?_
      have hFc : ∀ q, va_A [] H.size q → A q := pu_free hS hA
      refine va_calli (va_runV (As := [.int 40]) (rest := []) ⟨hx, hb, hml, hown, hts⟩ (c_X8_sees l dC dI H.size cq Z gI o to 40) (cwV 1 hts gX8_parseUnit_X8_sees rfl rfl rfl (by decide +kernel) ⟨(Nat.le_of_ble_eq_true rfl), (Nat.le_of_ble_eq_true rfl)⟩) (pr_V (r := (RX8, TX8, 6)) hP hK hD q_1 8 rfl hq_1) rfl rfl hl.1 rfl (lv_room (Nat.le_of_ble_eq_true rfl)) dX8_parseUnit_46 ⟨(Nat.le_of_ble_eq_true rfl), (Nat.le_of_ble_eq_true rfl)⟩) hS (fun q _ h => hFc q h) hFc (fun r_13 u t H locs ht hvm w_12 hB hz1 hk1 hS => ?_)
      have hP := pu_keep hP hk1
      clear hk1 hz1 hvm hB ht hFc
      obtain ⟨hb_14, hx_15⟩ := w_12
      refine lv_if_eq (tgt := 77) hx hb dX8_parseUnit_49 (by decide) (fun c_16 => ?_) (fun c_16 => ?_)
      · have dc_16 := c_eq (a := r_13.toInt) (b := 0) rfl (by decide) c_16
        refine lv_aload_n hx hb dX8_parseUnit_77 rfl (lv_at hl 1 rfl) ?_
        refine lv_aload_n hx hb dX8_parseUnit_78 rfl (lv_at hl 1 rfl) ?_
        refine va_get (D := (dC, dI)) (ci := 8) (v := .int (oI Z o 4)) (C := RX8) (T := TX8) (N := 6) hx hb hts in_wsX8_parseUnit_X8 hown hK hP q_1 hq_1 rfl 4 (by decide) (hts (.fieldLink RX8 22 "ShipOffice$Tape" "at" "I") iw_X8_parseUnit_1) (fun _ h9 => h9) rfl dX8_parseUnit_79 ?_
        refine lv_topi (fun x_17 ex_17 => ?_)
        have hx_17 : 0 ≤ x_17.toInt ∧ x_17.toInt ≤ 60 := iv_of ex_17 (oInv.iv gI to.2 rfl rfl)
        have gx_17 : x_17.toInt = (oI Z o 4).toInt := iv_to ex_17
        clear ex_17
        refine va_put (D := (dC, dI)) (ci := 8) (v := .int x_17) (ty := .int) (C := RX8) (T := TX8) (N := 6) hx hb hts in_wsX8_parseUnit_X8 tyX8 tyX8_ok nmX8 hown hK hP hD hS q_1 hq_1 rfl 5 (by decide) (hts (.fieldLink RX8 28 "ShipOffice$Tape" "fault" "I") iw_X8_parseUnit_2) (fun _ h9 => h9) rfl (by decide +kernel) rfl rfl (Nat.le_of_ble_eq_true rfl) dX8_parseUnit_82 (fun H locs hP1 hD1 hS => ?_)
        obtain ⟨S_18, eS_18⟩ : ∃ zq, zq = setI Z o 5 x_17 := ⟨_, rfl⟩
        have hP : va_P (dC, dI) vwCl (oW cq S_18) H := by rw [eS_18]; exact cP (oset to.1 hq_1 hD rfl (he_8_5 to.2) neI) hP1
        have hD : va_D A (oW cq S_18) := by rw [eS_18]; exact cD (oset to.1 hq_1 hD rfl (he_8_5 to.2) neI) hD1
        clear hP1 hD1
        have hIS_18 : oInv S_18 := by rw [eS_18]; exact oInv.I0 (k := 8) (lo := -2147483648) (hi := 2147483647) gI to.2 (by decide) rfl rfl rfl (iv_all _)
        have XS_18 : oX [805] Z S_18 := by rw [eS_18]; exact oX.I (k := 8) (key := 805) to.2 rfl (List.mem_singleton.mpr rfl)
        have X_19 : oX [803, 804, 805, 2063] Z S_18 := oX.st oX.rf XS_18 (by decide)
        have g_20 : (oI S_18 o 4).toInt = (oI Z o 4).toInt := by rw [eS_18, setI_ne (by decide)]
        exact W.vret hx hb hr (fun t ht hW => ⟨⟨S_18, rfl, ⟨hIS_18, X_19⟩, ⟨by rw [ht]; exact hP, va_K.moved hW.alike hK, hD⟩⟩, hS.F ht⟩) hS.2.2 dX8_parseUnit_85
      · have dc_16 := c_ne (a := r_13.toInt) (b := 0) rfl (by decide) c_16
        have hi_21 := Or.resolve_left hx_15 c_16
        refine lv_iload_n hx hb dX8_parseUnit_52 rfl (lv_at hl 2 rfl) ?_
        refine lv_iconst (v := 5) hx hb dX8_parseUnit_53 (by decide) ?_
        refine lv_icmp_ge (tgt := 77) hx hb dX8_parseUnit_54 (by decide) (fun c_22 => ?_) (fun c_22 => ?_)
        · have dc_22 := c_le (a := 5) (b := x1.toInt) (by decide) rfl c_22
          exfalso; omega
        · have dc_22 := c_nle (a := 5) (b := x1.toInt) (by decide) rfl c_22
          refine lv_aload_n hx hb dX8_parseUnit_57 rfl (lv_at hl 1 rfl) ?_
          refine lv_dup hx hb dX8_parseUnit_58 rfl ?_
          refine va_get (D := (dC, dI)) (ci := 8) (v := .int (oI Z o 4)) (C := RX8) (T := TX8) (N := 6) hx hb hts in_wsX8_parseUnit_X8 hown hK hP q_1 hq_1 rfl 4 (by decide) (hts (.fieldLink RX8 22 "ShipOffice$Tape" "at" "I") iw_X8_parseUnit_1) (fun _ h9 => h9) rfl dX8_parseUnit_59 ?_
          refine lv_topi (fun x_23 ex_23 => ?_)
          have hx_23 : 0 ≤ x_23.toInt ∧ x_23.toInt ≤ 60 := iv_of ex_23 (oInv.iv gI to.2 rfl rfl)
          have gx_23 : x_23.toInt = (oI Z o 4).toInt := iv_to ex_23
          clear ex_23
          refine lv_iconst (v := 1) hx hb dX8_parseUnit_62 (by decide) ?_
          refine lv_iadd hx hb dX8_parseUnit_63 ?_
          refine lv_topi (fun x_24 ex_24 => ?_)
          have hx_24 : x_24.toInt = x_23.toInt + 1 := (iv_to ex_24).trans (ad_i rfl (by decide) (by omega) (by omega))
          clear ex_24
          refine va_put (D := (dC, dI)) (ci := 8) (v := .int x_24) (ty := .int) (C := RX8) (T := TX8) (N := 6) hx hb hts in_wsX8_parseUnit_X8 tyX8 tyX8_ok nmX8 hown hK hP hD hS q_1 hq_1 rfl 4 (by decide) (hts (.fieldLink RX8 22 "ShipOffice$Tape" "at" "I") iw_X8_parseUnit_1) (fun _ h9 => h9) rfl (by decide +kernel) rfl rfl (Nat.le_of_ble_eq_true rfl) dX8_parseUnit_64 (fun H locs hP1 hD1 hS => ?_)
          obtain ⟨S_25, eS_25⟩ : ∃ zq, zq = setI Z o 4 x_24 := ⟨_, rfl⟩
          have hP : va_P (dC, dI) vwCl (oW cq S_25) H := by rw [eS_25]; exact cP (oset to.1 hq_1 hD rfl (he_8_4 to.2) neI) hP1
          have hD : va_D A (oW cq S_25) := by rw [eS_25]; exact cD (oset to.1 hq_1 hD rfl (he_8_4 to.2) neI) hD1
          clear hP1 hD1
          have hIS_25 : oInv S_25 := by rw [eS_25]; exact oInv.I0 (k := 8) (lo := 0) (hi := 60) gI to.2 (by decide) rfl rfl rfl (by omega)
          have XS_25 : oX [804] Z S_25 := by rw [eS_25]; exact oX.I (k := 8) (key := 804) to.2 rfl (List.mem_singleton.mpr rfl)
          have X_26 : oX [803, 804, 805, 2063] Z S_25 := oX.st oX.rf XS_25 (by decide)
          have g_27 : (oI S_25 o 4).toInt = x_24.toInt := by rw [eS_25, setI_same]
          refine lv_aload_n hx hb dX8_parseUnit_67 rfl (lv_at hl 1 rfl) ?_
          refine lv_iload_n hx hb dX8_parseUnit_68 rfl (lv_at hl 2 rfl) ?_
          refine lv_iconst (v := 1) hx hb dX8_parseUnit_69 (by decide) ?_
          refine lv_iadd hx hb dX8_parseUnit_70 ?_
          refine lv_topi (fun x_28 ex_28 => ?_)
          have hx_28 : x_28.toInt = x1.toInt + 1 := (iv_to ex_28).trans (ad_i rfl (by decide) (by omega) (by omega))
          clear ex_28
          have t_29 : oty S_25 o 8 := (oX.ty XS_25 to)
          have hFc := o_free hD hS hA
          obtain ⟨q_30, hq_30⟩ := og (cq := cq) t_29.1 (oE_8 t_29.2)
          refine va_callv (va_runV (As := [.int x_28]) (rest := []) ⟨hx, hb, hml, hown, hts⟩ (c_X8_parseBracket_1 l dC dI H.size tL tS tG cq S_25 hIS_25 o t_29 x_28 (by omega)) (cwV 1 hts gX8_parseUnit_X8_parseBracket rfl rfl rfl (by decide +kernel) ⟨(Nat.le_of_ble_eq_true rfl), (Nat.le_of_ble_eq_true rfl)⟩) (pr_VO (r := (RX8, TX8, 6)) hP hK hD q_30 8 rfl hq_30 (hZ.go hS hFc)) rfl rfl hl.1 rfl (lv_room (Nat.le_of_ble_eq_true rfl)) dX8_parseUnit_71 ⟨(Nat.le_of_ble_eq_true rfl), (Nat.le_of_ble_eq_true rfl)⟩) hS (fun q _ h => hFc q h) hFc (fun u t H locs ht hvm w_31 hB hz1 hk1 hS => ?_)
          obtain ⟨S_33, rfl⟩ : ∃ z, z = u := ⟨_, rfl⟩
          obtain ⟨hP1, hK1, hD1⟩ := hB
          rw [ht] at hP1
          have hP : va_P (dC, dI) vwCl (oW cq S_33) H := hP1
          have hD : va_D A (oW cq S_33) := hD1.weaken (fun _ _ _ h => hFc _ h)
          clear hP1 hK1 hD1 hk1 hz1 hvm ht hFc
          obtain ⟨hIS_33, XS_33⟩ := w_31
          have X_34 : oX [803, 804, 805, 2063] Z S_33 := oX.st X_26 XS_33 (by decide)
          refine lv_goto (tgt := 85) hx hb dX8_parseUnit_74 (by decide) ?_
          exact W.vret hx hb hr (fun t ht hW => ⟨⟨S_33, rfl, ⟨hIS_33, X_34⟩, ⟨by rw [ht]; exact hP, va_K.moved hW.alike hK, hD⟩⟩, hS.F ht⟩) hS.2.2 dX8_parseUnit_85
    · have dc_11 := c_nlt (a := r_3.toInt) (b := 0) rfl (by decide) c_11
      have hi_35 := Or.resolve_left hx_5 (by omega)
      refine lv_aload_n hx hb dX8_parseUnit_23 rfl (lv_at hl 1 rfl) ?_
      refine lv_dup hx hb dX8_parseUnit_24 rfl ?_
      refine va_get (D := (dC, dI)) (ci := 8) (v := .int (oI Z o 4)) (C := RX8) (T := TX8) (N := 6) hx hb hts in_wsX8_parseUnit_X8 hown hK hP q_1 hq_1 rfl 4 (by decide) (hts (.fieldLink RX8 22 "ShipOffice$Tape" "at" "I") iw_X8_parseUnit_1) (fun _ h9 => h9) rfl dX8_parseUnit_25 ?_
      refine lv_topi (fun x_36 ex_36 => ?_)
      have hx_36 : 0 ≤ x_36.toInt ∧ x_36.toInt ≤ 60 := iv_of ex_36 (oInv.iv gI to.2 rfl rfl)
      have gx_36 : x_36.toInt = (oI Z o 4).toInt := iv_to ex_36
      clear ex_36
      refine lv_iconst (v := 1) hx hb dX8_parseUnit_28 (by decide) ?_
      refine lv_iadd hx hb dX8_parseUnit_29 ?_
      refine lv_topi (fun x_37 ex_37 => ?_)
      have hx_37 : x_37.toInt = x_36.toInt + 1 := (iv_to ex_37).trans (ad_i rfl (by decide) (by omega) (by omega))
      clear ex_37
      refine va_put (D := (dC, dI)) (ci := 8) (v := .int x_37) (ty := .int) (C := RX8) (T := TX8) (N := 6) hx hb hts in_wsX8_parseUnit_X8 tyX8 tyX8_ok nmX8 hown hK hP hD hS q_1 hq_1 rfl 4 (by decide) (hts (.fieldLink RX8 22 "ShipOffice$Tape" "at" "I") iw_X8_parseUnit_1) (fun _ h9 => h9) rfl (by decide +kernel) rfl rfl (Nat.le_of_ble_eq_true rfl) dX8_parseUnit_30 (fun H locs hP1 hD1 hS => ?_)
      obtain ⟨S_38, eS_38⟩ : ∃ zq, zq = setI Z o 4 x_37 := ⟨_, rfl⟩
      have hP : va_P (dC, dI) vwCl (oW cq S_38) H := by rw [eS_38]; exact cP (oset to.1 hq_1 hD rfl (he_8_4 to.2) neI) hP1
      have hD : va_D A (oW cq S_38) := by rw [eS_38]; exact cD (oset to.1 hq_1 hD rfl (he_8_4 to.2) neI) hD1
      clear hP1 hD1
      have hIS_38 : oInv S_38 := by rw [eS_38]; exact oInv.I0 (k := 8) (lo := 0) (hi := 60) gI to.2 (by decide) rfl rfl rfl (by omega)
      have XS_38 : oX [804] Z S_38 := by rw [eS_38]; exact oX.I (k := 8) (key := 804) to.2 rfl (List.mem_singleton.mpr rfl)
      have X_39 : oX [803, 804, 805, 2063] Z S_38 := oX.st oX.rf XS_38 (by decide)
      have g_40 : (oI S_38 o 4).toInt = x_37.toInt := by rw [eS_38, setI_same]
      refine lv_aload_n hx hb dX8_parseUnit_33 rfl (lv_at hl 1 rfl) ?_
      refine lv_iconst (v := (-1)) hx hb dX8_parseUnit_34 (by decide) ?_
      refine lv_iload_n hx hb dX8_parseUnit_35 rfl (lv_at hl 0 rfl) ?_
      refine lv_isub hx hb dX8_parseUnit_36 ?_
      refine lv_topi (fun x_41 ex_41 => ?_)
      have hx_41 : x_41.toInt = (-1) - r_3.toInt := (iv_to ex_41).trans (sb_i (by decide) rfl (by omega) (by omega))
      clear ex_41
      have t_42 : oty S_38 o 8 := (oX.ty XS_38 to)
      have hFc := o_free hD hS hA
      obtain ⟨q_43, hq_43⟩ := og (cq := cq) t_42.1 (oE_8 t_42.2)
      refine va_callv (va_runV (As := [.int x_41]) (rest := []) ⟨hx, hb, hml, hown, hts⟩ (c_X8_emit l dC dI H.size cq S_38 hIS_38 o t_42 x_41) (cwV 1 hts gX8_parseUnit_X8_emit rfl rfl rfl (by decide +kernel) ⟨(Nat.le_of_ble_eq_true rfl), (Nat.le_of_ble_eq_true rfl)⟩) (pr_V (r := (RX8, TX8, 6)) hP hK hD q_43 8 rfl hq_43) rfl rfl hl.1 rfl (lv_room (Nat.le_of_ble_eq_true rfl)) dX8_parseUnit_37 ⟨(Nat.le_of_ble_eq_true rfl), (Nat.le_of_ble_eq_true rfl)⟩) hS (fun q _ h => hFc q h) hFc (fun u t H locs ht hvm w_44 hB hz1 hk1 hS => ?_)
      obtain ⟨S_46, rfl⟩ : ∃ z, z = u := ⟨_, rfl⟩
      obtain ⟨hP1, hK1, hD1⟩ := hB
      rw [ht] at hP1
      have hP : va_P (dC, dI) vwCl (oW cq S_46) H := hP1
      have hD : va_D A (oW cq S_46) := hD1.weaken (fun _ _ _ h => hFc _ h)
      clear hP1 hK1 hD1 hk1 hz1 hvm ht hFc
      obtain ⟨hIS_46, XS_46⟩ := w_44
      have X_47 : oX [803, 804, 805, 2063] Z S_46 := oX.st X_39 XS_46 (by decide)
      refine lv_goto (tgt := 85) hx hb dX8_parseUnit_40 (by decide) ?_
      exact W.vret hx hb hr (fun t ht hW => ⟨⟨S_46, rfl, ⟨hIS_46, X_47⟩, ⟨by rw [ht]; exact hP, va_K.moved hW.alike hK, hD⟩⟩, hS.F ht⟩) hS.2.2 dX8_parseUnit_85
  · have dc_10 := c_ne (a := r_7.toInt) (b := 0) rfl (by decide) c_10
    have hi_48 := Or.resolve_left hx_9 c_10
    refine lv_aload_n hx hb dX8_parseUnit_12 rfl (lv_at hl 1 rfl) ?_
    have hFc := o_free hD hS hA
    refine va_callv (va_runV (As := []) (rest := []) ⟨hx, hb, hml, hown, hts⟩ (c_X8_parseNumber l dC dI H.size cq Z gI o to) (cwV 0 hts gX8_parseUnit_X8_parseNumber rfl rfl rfl (by decide +kernel) ⟨(Nat.le_of_ble_eq_true rfl), (Nat.le_of_ble_eq_true rfl)⟩) (pr_V (r := (RX8, TX8, 6)) hP hK hD q_1 8 rfl hq_1) rfl rfl hl.1 rfl (lv_room (Nat.le_of_ble_eq_true rfl)) dX8_parseUnit_13 ⟨(Nat.le_of_ble_eq_true rfl), (Nat.le_of_ble_eq_true rfl)⟩) hS (fun q _ h => hFc q h) hFc (fun u t H locs ht hvm w_49 hB hz1 hk1 hS => ?_)
    obtain ⟨S_51, rfl⟩ : ∃ z, z = u := ⟨_, rfl⟩
    obtain ⟨hP1, hK1, hD1⟩ := hB
    rw [ht] at hP1
    have hP : va_P (dC, dI) vwCl (oW cq S_51) H := hP1
    have hD : va_D A (oW cq S_51) := hD1.weaken (fun _ _ _ h => hFc _ h)
    clear hP1 hK1 hD1 hk1 hz1 hvm ht hFc
    obtain ⟨hIS_51, XS_51⟩ := w_49
    have X_52 : oX [803, 804, 805, 2063] Z S_51 := oX.st oX.rf XS_51 (by decide)
    refine lv_goto (tgt := 85) hx hb dX8_parseUnit_16 (by decide) ?_
    exact W.vret hx hb hr (fun t ht hW => ⟨⟨S_51, rfl, ⟨hIS_51, X_52⟩, ⟨by rw [ht]; exact hP, va_K.moved hW.alike hK, hD⟩⟩, hS.F ht⟩) hS.2.2 dX8_parseUnit_85
set_option maxHeartbeats 4000000 in
set_option maxRecDepth 100000 in
theorem c_X8_parseTerm_0 (l : Launch) (dC : Nat → ClassId) (dI : Nat → Nat → Nat) (sz : Nat) (tL tS tG : Nat) (cq : Nat → ClassId) (Z : oS) (gI : oInv Z) (o : Nat) (to : oty Z o 8) (x1 : Int32) (hx1 : 0 ≤ x1.toInt ∧ x1.toInt ≤ 0) : Met l yX8_parseTerm wsX8_parseTerm ({ frames := 23, cells := 0, slots := 0, locals := 515 }) (va_Pc [.ref o, .int x1] (pcO (dC, dI) (oT cq) (oW cq Z) sz tL tS tG (oW cq Z))) (va_Qv (fun (u : oS) => oInv u ∧ oX [803, 804, 805, 2063] Z u) (fun u t => va_P (dC, dI) vwCl (oW cq u) t.heap ∧ va_K (dC, dI) vwCl (oT cq) t ∧ va_D (va_A (oW cq Z) sz) (oW cq u)) (va_A (oW cq Z) sz)) 0 0 (va_A (oW cq Z) sz) := by
  refine Met.ofW (cc := cX8_parseTerm) (maxL := 4) (ret := none) (by decide) rfl ?_
  intro p e s m args below meth c s₁ B hml hv
  obtain ⟨rfl, ⟨hsz, hP, hK, hD0⟩, hZ⟩ := hv
  have hx := B.exec
  have hb := B.bytes
  have hr := B.returns
  have hts := atoms_spec (ws := wsX8_parseTerm) B.pre
  have hown : s.vm.findClass RX8 = some m.cls := findClass_of_methodNamed B.named
  have hlocks := B.notSynchronized
  subst hsz
  have hD := hD0.self (sz := s.heap.size)
  generalize hAe : va_A (oW cq Z) s.heap.size = A at hD hZ ⊢
  have hA : ∀ q : Nat, s.heap.size ≤ q → A q := fun q h => by rw [← hAe]; exact Or.inr h
  have hS : va_S A s.heap s.heap [] := va_S.rf
  have hP : va_P (dC, dI) vwCl (oW cq Z) s.heap := hP
  have hl := lv_entry ([.ref o, .int x1]) (n := 4) (Nat.le_of_ble_eq_true rfl)
  rw [lg_entry_eq]
  generalize (lg_sl ([.ref o, .int x1]) ++ List.replicate (4 - (lg_sl ([.ref o, .int x1])).length) Slot.unset).toArray = ls at hl ⊢
  have hl : lv_has ls 4 [(0, .ref o), (1, .int x1)] := hl
  refine lv_aload_n hx hb dX8_parseTerm_0 rfl (lv_at hl 0 rfl) ?_
  refine lv_iload_n hx hb dX8_parseTerm_1 rfl (lv_at hl 1 rfl) ?_
  have hFc := o_free hD hS hA
  obtain ⟨q_1, hq_1⟩ := og (cq := cq) to.1 (oE_8 to.2)
  refine va_callv (va_runV (As := [.int x1]) (rest := []) ⟨hx, hb, hml, hown, hts⟩ (c_X8_parseUnit_0 l dC dI s.heap.size tL tS tG cq Z gI o to x1 (by omega)) (cwV 1 hts gX8_parseTerm_X8_parseUnit rfl rfl rfl (by decide +kernel) ⟨(Nat.le_of_ble_eq_true rfl), (Nat.le_of_ble_eq_true rfl)⟩) (pr_VO (r := (RX8, TX8, 6)) hP hK hD q_1 8 rfl hq_1 (hZ.go hS hFc)) rfl rfl hl.1 rfl (lv_room (Nat.le_of_ble_eq_true rfl)) dX8_parseTerm_2 ⟨(Nat.le_of_ble_eq_true rfl), (Nat.le_of_ble_eq_true rfl)⟩) hS (fun q _ h => hFc q h) hFc (fun u t H locs ht hvm w_2 hB hz1 hk1 hS => ?_)
  obtain ⟨S_4, rfl⟩ : ∃ z, z = u := ⟨_, rfl⟩
  obtain ⟨hP1, hK1, hD1⟩ := hB
  rw [ht] at hP1
  have hP : va_P (dC, dI) vwCl (oW cq S_4) H := hP1
  have hD : va_D A (oW cq S_4) := hD1.weaken (fun _ _ _ h => hFc _ h)
  clear hP1 hK1 hD1 hk1 hz1 hvm ht hFc
  obtain ⟨hIS_4, XS_4⟩ := w_2
  have X_5 : oX [803, 804, 805, 2063] Z S_4 := oX.st oX.rf XS_4 (by decide)
  refine lv_iconst (v := 0) hx hb dX8_parseTerm_5 (by decide) ?_
  refine lv_istore_n (lv' := [(2, .int 0), (0, .ref o), (1, .int x1)]) hx hb dX8_parseTerm_6 rfl hl (by decide) rfl (fun ls hl => ?_)
  have cut_6 : ∀ (n : Nat) (y_7 : Int32) (S_8 : oS) (H : Heap) (locs : List Loc) (ls : Array Slot), 60 - y_7.toInt ≤ (n : Int) → (0 ≤ y_7.toInt ∧ y_7.toInt ≤ 60) → oInv S_8 → oX [803, 804, 805, 2063] S_4 S_8 → va_P (dC, dI) vwCl (oW cq S_8) H → va_D A (oW cq S_8) → va_S A s.heap H locs → lv_has ls 4 [(2, .int y_7), (0, .ref o), (1, .int x1)] → W p l e (headSpec wsX8_parseTerm { frames := 23, cells := 0, slots := 0, locals := 515 }).room s m #[Value.ref o, Value.int x1] below meth c H locs 0 0 (MQ below (va_Qv (fun (u : oS) => oInv u ∧ oX [803, 804, 805, 2063] Z u) (fun u t => va_P (dC, dI) vwCl (oW cq u) t.heap ∧ va_K (dC, dI) vwCl (oT cq) t ∧ va_D A (oW cq u)) A) #[Value.ref o, Value.int x1] s 0 0 A) (F0 m 7 ls []) := by
    intro n
    induction n using Nat.strongRecOn with
    | ind n ih =>
      intro y_7 S_8 H locs ls hm hy_7 hIS_8 XS_8 hP hD hS hl
      have YS_8 : oX [803, 804, 805, 2063] Z S_8 := oX.st X_5 XS_8 (fun _ q => q)
      refine lv_iload_n hx hb dX8_parseTerm_7 rfl (lv_at hl 0 rfl) ?_
      refine lv_bipush (v := 60) hx hb dX8_parseTerm_8 (by decide) ?_
      refine lv_icmp_ge (tgt := 74) hx hb dX8_parseTerm_10 (by decide) (fun c_9 => ?_) (fun c_9 => ?_)
      · have dc_9 := c_le (a := 60) (b := y_7.toInt) (by decide) rfl c_9
        exact W.vret hx hb hr (fun t ht hW => ⟨⟨S_8, rfl, ⟨hIS_8, YS_8⟩, ⟨by rw [ht]; exact hP, va_K.moved hW.alike hK, hD⟩⟩, hS.F ht⟩) hS.2.2 dX8_parseTerm_74
      · have dc_9 := c_nle (a := 60) (b := y_7.toInt) (by decide) rfl c_9
        refine lv_aload_n hx hb dX8_parseTerm_13 rfl (lv_at hl 1 rfl) ?_
        have t_10 : oty S_8 o 8 := (oX.ty XS_8 (oX.ty XS_4 to))
        obtain ⟨q_11, hq_11⟩ := og (cq := cq) t_10.1 (oE_8 t_10.2)
        refine va_get (D := (dC, dI)) (ci := 8) (v := .int (oI S_8 o 5)) (C := RX8) (T := TX8) (N := 6) hx hb hts in_wsX8_parseTerm_X8 hown hK hP q_11 hq_11 rfl 5 (by decide) (hts (.fieldLink RX8 28 "ShipOffice$Tape" "fault" "I") iw_X8_parseTerm_1) (fun _ h9 => h9) rfl dX8_parseTerm_14 ?_
        refine lv_topi (fun x_12 ex_12 => ?_)
        clear ex_12
        refine lv_if_ge (tgt := 74) hx hb dX8_parseTerm_17 (by decide) (fun c_13 => ?_) (fun c_13 => ?_)
        · have dc_13 := c_le (a := 0) (b := x_12.toInt) (by decide) rfl c_13
          exact W.vret hx hb hr (fun t ht hW => ⟨⟨S_8, rfl, ⟨hIS_8, YS_8⟩, ⟨by rw [ht]; exact hP, va_K.moved hW.alike hK, hD⟩⟩, hS.F ht⟩) hS.2.2 dX8_parseTerm_74
        · have dc_13 := c_nle (a := 0) (b := x_12.toInt) (by decide) rfl c_13
          refine lv_aload_n hx hb dX8_parseTerm_20 rfl (lv_at hl 1 rfl) ?_
          refine lv_bipush (v := 42) hx hb dX8_parseTerm_21 (by decide) ?_
          have hFc : ∀ q, va_A [] H.size q → A q := pu_free hS hA
          refine va_calli (va_runV (As := [.int 42]) (rest := []) ⟨hx, hb, hml, hown, hts⟩ (c_X8_sees l dC dI H.size cq S_8 hIS_8 o t_10 42) (cwV 1 hts gX8_parseTerm_X8_sees rfl rfl rfl (by decide +kernel) ⟨(Nat.le_of_ble_eq_true rfl), (Nat.le_of_ble_eq_true rfl)⟩) (pr_V (r := (RX8, TX8, 6)) hP hK hD q_11 8 rfl hq_11) rfl rfl hl.1 rfl (lv_room (Nat.le_of_ble_eq_true rfl)) dX8_parseTerm_23 ⟨(Nat.le_of_ble_eq_true rfl), (Nat.le_of_ble_eq_true rfl)⟩) hS (fun q _ h => hFc q h) hFc (fun r_15 u t H locs ht hvm w_14 hB hz1 hk1 hS => ?_)
          have hP := pu_keep hP hk1
          clear hk1 hz1 hvm hB ht hFc
          obtain ⟨hb_16, hx_17⟩ := w_14
          refine lv_if_ne (tgt := 38) hx hb dX8_parseTerm_26 (by decide) (fun c_18 => ?_) (fun c_18 => ?_)
          · have dc_18 := c_ne (a := r_15.toInt) (b := 0) rfl (by decide) c_18
            have hi_19 := Or.resolve_left hx_17 c_18
            refine lv_aload_n hx hb dX8_parseTerm_38 rfl (lv_at hl 1 rfl) ?_
            obtain ⟨b_20, hb_20⟩ := oInv.nn (i := 0) hIS_8 t_10 rfl
            refine va_get (D := (dC, dI)) (ci := 8) (v := .ref b_20) (C := RX8) (T := TX8) (N := 6) hx hb hts in_wsX8_parseTerm_X8 hown hK hP q_11 hq_11 rfl 0 (by decide) (hts (.fieldLink RX8 9 "ShipOffice$Tape" "bytes" "[I") iw_X8_parseTerm_2) (fun _ h9 => h9) (o_rd hb_20) dX8_parseTerm_39 ?_
            have tb_20 : oty S_8 b_20 160 := oInv.rd hIS_8 t_10.2 hb_20 rfl rfl
            refine lv_aload_n hx hb dX8_parseTerm_42 rfl (lv_at hl 1 rfl) ?_
            refine va_get (D := (dC, dI)) (ci := 8) (v := .int (oI S_8 o 4)) (C := RX8) (T := TX8) (N := 6) hx hb hts in_wsX8_parseTerm_X8 hown hK hP q_11 hq_11 rfl 4 (by decide) (hts (.fieldLink RX8 22 "ShipOffice$Tape" "at" "I") iw_X8_parseTerm_3) (fun _ h9 => h9) rfl dX8_parseTerm_43 ?_
            refine lv_topi (fun x_21 ex_21 => ?_)
            have hx_21 : 0 ≤ x_21.toInt ∧ x_21.toInt ≤ 60 := iv_of ex_21 (oInv.iv hIS_8 t_10.2 rfl rfl)
            have gx_21 : x_21.toInt = (oI S_8 o 4).toInt := iv_to ex_21
            clear ex_21
            obtain ⟨q_22, hq_22⟩ := og (cq := cq) tb_20.1 (oE_a1 (n := 60) tb_20.2 (by decide))
            refine va_iald hx hb hK hP q_22 0 hq_22 rfl (vp_in_iff.mpr (by omega)) dX8_parseTerm_46 ?_
            refine lv_topi (fun x_23 ex_23 => ?_)
            clear ex_23
            refine lv_istore_n (lv' := [(3, .int x_23), (2, .int y_7), (0, .ref o), (1, .int x1)]) hx hb dX8_parseTerm_47 rfl hl (by decide) rfl (fun ls hl => ?_)
            refine lv_aload_n hx hb dX8_parseTerm_48 rfl (lv_at hl 2 rfl) ?_
            refine lv_dup hx hb dX8_parseTerm_49 rfl ?_
            refine va_get (D := (dC, dI)) (ci := 8) (v := .int (oI S_8 o 4)) (C := RX8) (T := TX8) (N := 6) hx hb hts in_wsX8_parseTerm_X8 hown hK hP q_11 hq_11 rfl 4 (by decide) (hts (.fieldLink RX8 22 "ShipOffice$Tape" "at" "I") iw_X8_parseTerm_3) (fun _ h9 => h9) rfl dX8_parseTerm_50 ?_
            refine lv_topi (fun x_24 ex_24 => ?_)
            have hx_24 : 0 ≤ x_24.toInt ∧ x_24.toInt ≤ 60 := iv_of ex_24 (oInv.iv hIS_8 t_10.2 rfl rfl)
            have gx_24 : x_24.toInt = (oI S_8 o 4).toInt := iv_to ex_24
            clear ex_24
            refine lv_iconst (v := 1) hx hb dX8_parseTerm_53 (by decide) ?_
            refine lv_iadd hx hb dX8_parseTerm_54 ?_
            refine lv_topi (fun x_25 ex_25 => ?_)
            have hx_25 : x_25.toInt = x_24.toInt + 1 := (iv_to ex_25).trans (ad_i rfl (by decide) (by omega) (by omega))
            clear ex_25
            refine va_put (D := (dC, dI)) (ci := 8) (v := .int x_25) (ty := .int) (C := RX8) (T := TX8) (N := 6) hx hb hts in_wsX8_parseTerm_X8 tyX8 tyX8_ok nmX8 hown hK hP hD hS q_11 hq_11 rfl 4 (by decide) (hts (.fieldLink RX8 22 "ShipOffice$Tape" "at" "I") iw_X8_parseTerm_3) (fun _ h9 => h9) rfl (by decide +kernel) rfl rfl (Nat.le_of_ble_eq_true rfl) dX8_parseTerm_55 (fun H locs hP1 hD1 hS => ?_)
            obtain ⟨S_26, eS_26⟩ : ∃ zq, zq = setI S_8 o 4 x_25 := ⟨_, rfl⟩
            have hP : va_P (dC, dI) vwCl (oW cq S_26) H := by rw [eS_26]; exact cP (oset t_10.1 hq_11 hD rfl (he_8_4 t_10.2) neI) hP1
            have hD : va_D A (oW cq S_26) := by rw [eS_26]; exact cD (oset t_10.1 hq_11 hD rfl (he_8_4 t_10.2) neI) hD1
            clear hP1 hD1
            have hIS_26 : oInv S_26 := by rw [eS_26]; exact oInv.I0 (k := 8) (lo := 0) (hi := 60) hIS_8 t_10.2 (by decide) rfl rfl rfl (by omega)
            have XS_26 : oX [804] S_8 S_26 := by rw [eS_26]; exact oX.I (k := 8) (key := 804) t_10.2 rfl (List.mem_singleton.mpr rfl)
            have X_27 : oX [803, 804, 805, 2063] Z S_26 := oX.st YS_8 XS_26 (by decide)
            have g_28 : (oI S_26 o 4).toInt = x_25.toInt := by rw [eS_26, setI_same]
            refine lv_aload_n hx hb dX8_parseTerm_58 rfl (lv_at hl 2 rfl) ?_
            refine lv_iload_n hx hb dX8_parseTerm_59 rfl (lv_at hl 3 rfl) ?_
            have t_29 : oty S_26 o 8 := (oX.ty XS_26 t_10)
            have hFc := o_free hD hS hA
            obtain ⟨q_30, hq_30⟩ := og (cq := cq) t_29.1 (oE_8 t_29.2)
            refine va_callv (va_runV (As := [.int x1]) (rest := []) ⟨hx, hb, hml, hown, hts⟩ (c_X8_parseUnit_0 l dC dI H.size tL tS tG cq S_26 hIS_26 o t_29 x1 (by omega)) (cwV 1 hts gX8_parseTerm_X8_parseUnit rfl rfl rfl (by decide +kernel) ⟨(Nat.le_of_ble_eq_true rfl), (Nat.le_of_ble_eq_true rfl)⟩) (pr_VO (r := (RX8, TX8, 6)) hP hK hD q_30 8 rfl hq_30 (hZ.go hS hFc)) rfl rfl hl.1 rfl (lv_room (Nat.le_of_ble_eq_true rfl)) dX8_parseTerm_60 ⟨(Nat.le_of_ble_eq_true rfl), (Nat.le_of_ble_eq_true rfl)⟩) hS (fun q _ h => hFc q h) hFc (fun u t H locs ht hvm w_31 hB hz1 hk1 hS => ?_)
            obtain ⟨S_33, rfl⟩ : ∃ z, z = u := ⟨_, rfl⟩
            obtain ⟨hP1, hK1, hD1⟩ := hB
            rw [ht] at hP1
            have hP : va_P (dC, dI) vwCl (oW cq S_33) H := hP1
            have hD : va_D A (oW cq S_33) := hD1.weaken (fun _ _ _ h => hFc _ h)
            clear hP1 hK1 hD1 hk1 hz1 hvm ht hFc
            obtain ⟨hIS_33, XS_33⟩ := w_31
            have X_34 : oX [803, 804, 805, 2063] Z S_33 := oX.st X_27 XS_33 (by decide)
            refine lv_aload_n hx hb dX8_parseTerm_63 rfl (lv_at hl 2 rfl) ?_
            refine lv_iload_n hx hb dX8_parseTerm_64 rfl (lv_at hl 0 rfl) ?_
            have t_35 : oty S_33 o 8 := (oX.ty XS_33 t_29)
            have hFc := o_free hD hS hA
            obtain ⟨q_36, hq_36⟩ := og (cq := cq) t_35.1 (oE_8 t_35.2)
            refine va_callv (va_runV (As := [.int x_23]) (rest := []) ⟨hx, hb, hml, hown, hts⟩ (c_X8_emitSign l dC dI H.size tL tS tG cq S_33 hIS_33 o t_35 x_23) (cwV 1 hts gX8_parseTerm_X8_emitSign rfl rfl rfl (by decide +kernel) ⟨(Nat.le_of_ble_eq_true rfl), (Nat.le_of_ble_eq_true rfl)⟩) (pr_VO (r := (RX8, TX8, 6)) hP hK hD q_36 8 rfl hq_36 (hZ.go hS hFc)) rfl rfl hl.1 rfl (lv_room (Nat.le_of_ble_eq_true rfl)) dX8_parseTerm_65 ⟨(Nat.le_of_ble_eq_true rfl), (Nat.le_of_ble_eq_true rfl)⟩) hS (fun q _ h => hFc q h) hFc (fun u t H locs ht hvm w_37 hB hz1 hk1 hS => ?_)
            obtain ⟨S_39, rfl⟩ : ∃ z, z = u := ⟨_, rfl⟩
            obtain ⟨hP1, hK1, hD1⟩ := hB
            rw [ht] at hP1
            have hP : va_P (dC, dI) vwCl (oW cq S_39) H := hP1
            have hD : va_D A (oW cq S_39) := hD1.weaken (fun _ _ _ h => hFc _ h)
            clear hP1 hK1 hD1 hk1 hz1 hvm ht hFc
            obtain ⟨hIS_39, XS_39⟩ := w_37
            have X_40 : oX [803, 804, 805, 2063] Z S_39 := oX.st X_34 XS_39 (by decide)
            obtain ⟨x_41, ex_41⟩ : ∃ zq : Int32, y_7 + 1 = zq := ⟨_, rfl⟩
            have hx_41 : x_41.toInt = y_7.toInt + 1 := (iv_to ex_41).symm.trans (ad_i rfl (by decide) (by omega) (by omega))
            refine lv_iinc (v := x_41) (lv' := [(2, .int x_41), (3, .int x_23), (0, .ref o), (1, .int x1)]) hx hb dX8_parseTerm_68 hl (k := 1) rfl ex_41 (by decide) rfl (fun ls hl => ?_)
            clear ex_41
            refine lv_goto (tgt := 7) hx hb dX8_parseTerm_71 (by decide) ?_
            exact ih (n - 1) (by omega) x_41 S_39 _ _ ls (by omega) (by omega) hIS_39 (oX.st (oX.st (oX.st (oX.st oX.rf XS_8 (by decide)) XS_26 (by decide)) XS_33 (by decide)) XS_39 (by decide)) hP hD hS (lv_sub hl [0, 2, 3] rfl)
          · have dc_18 := c_eq (a := r_15.toInt) (b := 0) rfl (by decide) c_18
            refine lv_aload_n hx hb dX8_parseTerm_29 rfl (lv_at hl 1 rfl) ?_
            refine lv_bipush (v := 47) hx hb dX8_parseTerm_30 (by decide) ?_
            have hFc : ∀ q, va_A [] H.size q → A q := pu_free hS hA
            refine va_calli (va_runV (As := [.int 47]) (rest := []) ⟨hx, hb, hml, hown, hts⟩ (c_X8_sees l dC dI H.size cq S_8 hIS_8 o t_10 47) (cwV 1 hts gX8_parseTerm_X8_sees rfl rfl rfl (by decide +kernel) ⟨(Nat.le_of_ble_eq_true rfl), (Nat.le_of_ble_eq_true rfl)⟩) (pr_V (r := (RX8, TX8, 6)) hP hK hD q_11 8 rfl hq_11) rfl rfl hl.1 rfl (lv_room (Nat.le_of_ble_eq_true rfl)) dX8_parseTerm_32 ⟨(Nat.le_of_ble_eq_true rfl), (Nat.le_of_ble_eq_true rfl)⟩) hS (fun q _ h => hFc q h) hFc (fun r_43 u t H locs ht hvm w_42 hB hz1 hk1 hS => ?_)
            have hP := pu_keep hP hk1
            clear hk1 hz1 hvm hB ht hFc
            obtain ⟨hb_44, hx_45⟩ := w_42
            refine lv_if_eq (tgt := 74) hx hb dX8_parseTerm_35 (by decide) (fun c_46 => ?_) (fun c_46 => ?_)
            · have dc_46 := c_eq (a := r_43.toInt) (b := 0) rfl (by decide) c_46
              exact W.vret hx hb hr (fun t ht hW => ⟨⟨S_8, rfl, ⟨hIS_8, YS_8⟩, ⟨by rw [ht]; exact hP, va_K.moved hW.alike hK, hD⟩⟩, hS.F ht⟩) hS.2.2 dX8_parseTerm_74
            · have dc_46 := c_ne (a := r_43.toInt) (b := 0) rfl (by decide) c_46
              have hi_47 := Or.resolve_left hx_45 c_46
              refine lv_aload_n hx hb dX8_parseTerm_38 rfl (lv_at hl 1 rfl) ?_
              obtain ⟨b_48, hb_48⟩ := oInv.nn (i := 0) hIS_8 t_10 rfl
              refine va_get (D := (dC, dI)) (ci := 8) (v := .ref b_48) (C := RX8) (T := TX8) (N := 6) hx hb hts in_wsX8_parseTerm_X8 hown hK hP q_11 hq_11 rfl 0 (by decide) (hts (.fieldLink RX8 9 "ShipOffice$Tape" "bytes" "[I") iw_X8_parseTerm_2) (fun _ h9 => h9) (o_rd hb_48) dX8_parseTerm_39 ?_
              have tb_48 : oty S_8 b_48 160 := oInv.rd hIS_8 t_10.2 hb_48 rfl rfl
              refine lv_aload_n hx hb dX8_parseTerm_42 rfl (lv_at hl 1 rfl) ?_
              refine va_get (D := (dC, dI)) (ci := 8) (v := .int (oI S_8 o 4)) (C := RX8) (T := TX8) (N := 6) hx hb hts in_wsX8_parseTerm_X8 hown hK hP q_11 hq_11 rfl 4 (by decide) (hts (.fieldLink RX8 22 "ShipOffice$Tape" "at" "I") iw_X8_parseTerm_3) (fun _ h9 => h9) rfl dX8_parseTerm_43 ?_
              refine lv_topi (fun x_49 ex_49 => ?_)
              have hx_49 : 0 ≤ x_49.toInt ∧ x_49.toInt ≤ 60 := iv_of ex_49 (oInv.iv hIS_8 t_10.2 rfl rfl)
              have gx_49 : x_49.toInt = (oI S_8 o 4).toInt := iv_to ex_49
              clear ex_49
              obtain ⟨q_50, hq_50⟩ := og (cq := cq) tb_48.1 (oE_a1 (n := 60) tb_48.2 (by decide))
              refine va_iald hx hb hK hP q_50 0 hq_50 rfl (vp_in_iff.mpr (by omega)) dX8_parseTerm_46 ?_
              refine lv_topi (fun x_51 ex_51 => ?_)
              clear ex_51
              refine lv_istore_n (lv' := [(3, .int x_51), (2, .int y_7), (0, .ref o), (1, .int x1)]) hx hb dX8_parseTerm_47 rfl hl (by decide) rfl (fun ls hl => ?_)
              refine lv_aload_n hx hb dX8_parseTerm_48 rfl (lv_at hl 2 rfl) ?_
              refine lv_dup hx hb dX8_parseTerm_49 rfl ?_
              refine va_get (D := (dC, dI)) (ci := 8) (v := .int (oI S_8 o 4)) (C := RX8) (T := TX8) (N := 6) hx hb hts in_wsX8_parseTerm_X8 hown hK hP q_11 hq_11 rfl 4 (by decide) (hts (.fieldLink RX8 22 "ShipOffice$Tape" "at" "I") iw_X8_parseTerm_3) (fun _ h9 => h9) rfl dX8_parseTerm_50 ?_
              refine lv_topi (fun x_52 ex_52 => ?_)
              have hx_52 : 0 ≤ x_52.toInt ∧ x_52.toInt ≤ 60 := iv_of ex_52 (oInv.iv hIS_8 t_10.2 rfl rfl)
              have gx_52 : x_52.toInt = (oI S_8 o 4).toInt := iv_to ex_52
              clear ex_52
              refine lv_iconst (v := 1) hx hb dX8_parseTerm_53 (by decide) ?_
              refine lv_iadd hx hb dX8_parseTerm_54 ?_
              refine lv_topi (fun x_53 ex_53 => ?_)
              have hx_53 : x_53.toInt = x_52.toInt + 1 := (iv_to ex_53).trans (ad_i rfl (by decide) (by omega) (by omega))
              clear ex_53
              refine va_put (D := (dC, dI)) (ci := 8) (v := .int x_53) (ty := .int) (C := RX8) (T := TX8) (N := 6) hx hb hts in_wsX8_parseTerm_X8 tyX8 tyX8_ok nmX8 hown hK hP hD hS q_11 hq_11 rfl 4 (by decide) (hts (.fieldLink RX8 22 "ShipOffice$Tape" "at" "I") iw_X8_parseTerm_3) (fun _ h9 => h9) rfl (by decide +kernel) rfl rfl (Nat.le_of_ble_eq_true rfl) dX8_parseTerm_55 (fun H locs hP1 hD1 hS => ?_)
              obtain ⟨S_54, eS_54⟩ : ∃ zq, zq = setI S_8 o 4 x_53 := ⟨_, rfl⟩
              have hP : va_P (dC, dI) vwCl (oW cq S_54) H := by rw [eS_54]; exact cP (oset t_10.1 hq_11 hD rfl (he_8_4 t_10.2) neI) hP1
              have hD : va_D A (oW cq S_54) := by rw [eS_54]; exact cD (oset t_10.1 hq_11 hD rfl (he_8_4 t_10.2) neI) hD1
              clear hP1 hD1
              have hIS_54 : oInv S_54 := by rw [eS_54]; exact oInv.I0 (k := 8) (lo := 0) (hi := 60) hIS_8 t_10.2 (by decide) rfl rfl rfl (by omega)
              have XS_54 : oX [804] S_8 S_54 := by rw [eS_54]; exact oX.I (k := 8) (key := 804) t_10.2 rfl (List.mem_singleton.mpr rfl)
              have X_55 : oX [803, 804, 805, 2063] Z S_54 := oX.st YS_8 XS_54 (by decide)
              have g_56 : (oI S_54 o 4).toInt = x_53.toInt := by rw [eS_54, setI_same]
              refine lv_aload_n hx hb dX8_parseTerm_58 rfl (lv_at hl 2 rfl) ?_
              refine lv_iload_n hx hb dX8_parseTerm_59 rfl (lv_at hl 3 rfl) ?_
              have t_57 : oty S_54 o 8 := (oX.ty XS_54 t_10)
              have hFc := o_free hD hS hA
              obtain ⟨q_58, hq_58⟩ := og (cq := cq) t_57.1 (oE_8 t_57.2)
              refine va_callv (va_runV (As := [.int x1]) (rest := []) ⟨hx, hb, hml, hown, hts⟩ (c_X8_parseUnit_0 l dC dI H.size tL tS tG cq S_54 hIS_54 o t_57 x1 (by omega)) (cwV 1 hts gX8_parseTerm_X8_parseUnit rfl rfl rfl (by decide +kernel) ⟨(Nat.le_of_ble_eq_true rfl), (Nat.le_of_ble_eq_true rfl)⟩) (pr_VO (r := (RX8, TX8, 6)) hP hK hD q_58 8 rfl hq_58 (hZ.go hS hFc)) rfl rfl hl.1 rfl (lv_room (Nat.le_of_ble_eq_true rfl)) dX8_parseTerm_60 ⟨(Nat.le_of_ble_eq_true rfl), (Nat.le_of_ble_eq_true rfl)⟩) hS (fun q _ h => hFc q h) hFc (fun u t H locs ht hvm w_59 hB hz1 hk1 hS => ?_)
              obtain ⟨S_61, rfl⟩ : ∃ z, z = u := ⟨_, rfl⟩
              obtain ⟨hP1, hK1, hD1⟩ := hB
              rw [ht] at hP1
              have hP : va_P (dC, dI) vwCl (oW cq S_61) H := hP1
              have hD : va_D A (oW cq S_61) := hD1.weaken (fun _ _ _ h => hFc _ h)
              clear hP1 hK1 hD1 hk1 hz1 hvm ht hFc
              obtain ⟨hIS_61, XS_61⟩ := w_59
              have X_62 : oX [803, 804, 805, 2063] Z S_61 := oX.st X_55 XS_61 (by decide)
              refine lv_aload_n hx hb dX8_parseTerm_63 rfl (lv_at hl 2 rfl) ?_
              refine lv_iload_n hx hb dX8_parseTerm_64 rfl (lv_at hl 0 rfl) ?_
              have t_63 : oty S_61 o 8 := (oX.ty XS_61 t_57)
              have hFc := o_free hD hS hA
              obtain ⟨q_64, hq_64⟩ := og (cq := cq) t_63.1 (oE_8 t_63.2)
              refine va_callv (va_runV (As := [.int x_51]) (rest := []) ⟨hx, hb, hml, hown, hts⟩ (c_X8_emitSign l dC dI H.size tL tS tG cq S_61 hIS_61 o t_63 x_51) (cwV 1 hts gX8_parseTerm_X8_emitSign rfl rfl rfl (by decide +kernel) ⟨(Nat.le_of_ble_eq_true rfl), (Nat.le_of_ble_eq_true rfl)⟩) (pr_VO (r := (RX8, TX8, 6)) hP hK hD q_64 8 rfl hq_64 (hZ.go hS hFc)) rfl rfl hl.1 rfl (lv_room (Nat.le_of_ble_eq_true rfl)) dX8_parseTerm_65 ⟨(Nat.le_of_ble_eq_true rfl), (Nat.le_of_ble_eq_true rfl)⟩) hS (fun q _ h => hFc q h) hFc (fun u t H locs ht hvm w_65 hB hz1 hk1 hS => ?_)
              obtain ⟨S_67, rfl⟩ : ∃ z, z = u := ⟨_, rfl⟩
              obtain ⟨hP1, hK1, hD1⟩ := hB
              rw [ht] at hP1
              have hP : va_P (dC, dI) vwCl (oW cq S_67) H := hP1
              have hD : va_D A (oW cq S_67) := hD1.weaken (fun _ _ _ h => hFc _ h)
              clear hP1 hK1 hD1 hk1 hz1 hvm ht hFc
              obtain ⟨hIS_67, XS_67⟩ := w_65
              have X_68 : oX [803, 804, 805, 2063] Z S_67 := oX.st X_62 XS_67 (by decide)
              obtain ⟨x_69, ex_69⟩ : ∃ zq : Int32, y_7 + 1 = zq := ⟨_, rfl⟩
              have hx_69 : x_69.toInt = y_7.toInt + 1 := (iv_to ex_69).symm.trans (ad_i rfl (by decide) (by omega) (by omega))
              refine lv_iinc (v := x_69) (lv' := [(2, .int x_69), (3, .int x_51), (0, .ref o), (1, .int x1)]) hx hb dX8_parseTerm_68 hl (k := 1) rfl ex_69 (by decide) rfl (fun ls hl => ?_)
              clear ex_69
              refine lv_goto (tgt := 7) hx hb dX8_parseTerm_71 (by decide) ?_
              exact ih (n - 1) (by omega) x_69 S_67 _ _ ls (by omega) (by omega) hIS_67 (oX.st (oX.st (oX.st (oX.st oX.rf XS_8 (by decide)) XS_54 (by decide)) XS_61 (by decide)) XS_67 (by decide)) hP hD hS (lv_sub hl [0, 2, 3] rfl)
  have kc_70 : (0 : Int32).toInt = 0 := by decide
  exact cut_6 61 0 S_4 _ _ ls (by omega) (by decide) hIS_4 oX.rf hP hD hS (lv_sub hl [0, 1, 2] rfl)
set_option maxHeartbeats 4000000 in
set_option maxRecDepth 100000 in
theorem c_X8_parseSum_0 (l : Launch) (dC : Nat → ClassId) (dI : Nat → Nat → Nat) (sz : Nat) (tL tS tG : Nat) (cq : Nat → ClassId) (Z : oS) (gI : oInv Z) (o : Nat) (to : oty Z o 8) (x1 : Int32) (hx1 : 0 ≤ x1.toInt ∧ x1.toInt ≤ 0) : Met l yX8_parseSum wsX8_parseSum ({ frames := 24, cells := 0, slots := 0, locals := 538 }) (va_Pc [.ref o, .int x1] (pcO (dC, dI) (oT cq) (oW cq Z) sz tL tS tG (oW cq Z))) (va_Qv (fun (u : oS) => oInv u ∧ oX [803, 804, 805, 2063] Z u) (fun u t => va_P (dC, dI) vwCl (oW cq u) t.heap ∧ va_K (dC, dI) vwCl (oT cq) t ∧ va_D (va_A (oW cq Z) sz) (oW cq u)) (va_A (oW cq Z) sz)) 0 0 (va_A (oW cq Z) sz) := by
  refine Met.ofW (cc := cX8_parseSum) (maxL := 4) (ret := none) (by decide) rfl ?_
  intro p e s m args below meth c s₁ B hml hv
  obtain ⟨rfl, ⟨hsz, hP, hK, hD0⟩, hZ⟩ := hv
  have hx := B.exec
  have hb := B.bytes
  have hr := B.returns
  have hts := atoms_spec (ws := wsX8_parseSum) B.pre
  have hown : s.vm.findClass RX8 = some m.cls := findClass_of_methodNamed B.named
  have hlocks := B.notSynchronized
  subst hsz
  have hD := hD0.self (sz := s.heap.size)
  generalize hAe : va_A (oW cq Z) s.heap.size = A at hD hZ ⊢
  have hA : ∀ q : Nat, s.heap.size ≤ q → A q := fun q h => by rw [← hAe]; exact Or.inr h
  have hS : va_S A s.heap s.heap [] := va_S.rf
  have hP : va_P (dC, dI) vwCl (oW cq Z) s.heap := hP
  have hl := lv_entry ([.ref o, .int x1]) (n := 4) (Nat.le_of_ble_eq_true rfl)
  rw [lg_entry_eq]
  generalize (lg_sl ([.ref o, .int x1]) ++ List.replicate (4 - (lg_sl ([.ref o, .int x1])).length) Slot.unset).toArray = ls at hl ⊢
  have hl : lv_has ls 4 [(0, .ref o), (1, .int x1)] := hl
  refine lv_aload_n hx hb dX8_parseSum_0 rfl (lv_at hl 0 rfl) ?_
  refine lv_iload_n hx hb dX8_parseSum_1 rfl (lv_at hl 1 rfl) ?_
  have hFc := o_free hD hS hA
  obtain ⟨q_1, hq_1⟩ := og (cq := cq) to.1 (oE_8 to.2)
  refine va_callv (va_runV (As := [.int x1]) (rest := []) ⟨hx, hb, hml, hown, hts⟩ (c_X8_parseTerm_0 l dC dI s.heap.size tL tS tG cq Z gI o to x1 (by omega)) (cwV 1 hts gX8_parseSum_X8_parseTerm rfl rfl rfl (by decide +kernel) ⟨(Nat.le_of_ble_eq_true rfl), (Nat.le_of_ble_eq_true rfl)⟩) (pr_VO (r := (RX8, TX8, 6)) hP hK hD q_1 8 rfl hq_1 (hZ.go hS hFc)) rfl rfl hl.1 rfl (lv_room (Nat.le_of_ble_eq_true rfl)) dX8_parseSum_2 ⟨(Nat.le_of_ble_eq_true rfl), (Nat.le_of_ble_eq_true rfl)⟩) hS (fun q _ h => hFc q h) hFc (fun u t H locs ht hvm w_2 hB hz1 hk1 hS => ?_)
  obtain ⟨S_4, rfl⟩ : ∃ z, z = u := ⟨_, rfl⟩
  obtain ⟨hP1, hK1, hD1⟩ := hB
  rw [ht] at hP1
  have hP : va_P (dC, dI) vwCl (oW cq S_4) H := hP1
  have hD : va_D A (oW cq S_4) := hD1.weaken (fun _ _ _ h => hFc _ h)
  clear hP1 hK1 hD1 hk1 hz1 hvm ht hFc
  obtain ⟨hIS_4, XS_4⟩ := w_2
  have X_5 : oX [803, 804, 805, 2063] Z S_4 := oX.st oX.rf XS_4 (by decide)
  refine lv_iconst (v := 0) hx hb dX8_parseSum_5 (by decide) ?_
  refine lv_istore_n (lv' := [(2, .int 0), (0, .ref o), (1, .int x1)]) hx hb dX8_parseSum_6 rfl hl (by decide) rfl (fun ls hl => ?_)
  have cut_6 : ∀ (n : Nat) (y_7 : Int32) (S_8 : oS) (H : Heap) (locs : List Loc) (ls : Array Slot), 60 - y_7.toInt ≤ (n : Int) → (0 ≤ y_7.toInt ∧ y_7.toInt ≤ 60) → oInv S_8 → oX [803, 804, 805, 2063] S_4 S_8 → va_P (dC, dI) vwCl (oW cq S_8) H → va_D A (oW cq S_8) → va_S A s.heap H locs → lv_has ls 4 [(2, .int y_7), (0, .ref o), (1, .int x1)] → W p l e (headSpec wsX8_parseSum { frames := 24, cells := 0, slots := 0, locals := 538 }).room s m #[Value.ref o, Value.int x1] below meth c H locs 0 0 (MQ below (va_Qv (fun (u : oS) => oInv u ∧ oX [803, 804, 805, 2063] Z u) (fun u t => va_P (dC, dI) vwCl (oW cq u) t.heap ∧ va_K (dC, dI) vwCl (oT cq) t ∧ va_D A (oW cq u)) A) #[Value.ref o, Value.int x1] s 0 0 A) (F0 m 7 ls []) := by
    intro n
    induction n using Nat.strongRecOn with
    | ind n ih =>
      intro y_7 S_8 H locs ls hm hy_7 hIS_8 XS_8 hP hD hS hl
      have YS_8 : oX [803, 804, 805, 2063] Z S_8 := oX.st X_5 XS_8 (fun _ q => q)
      refine lv_iload_n hx hb dX8_parseSum_7 rfl (lv_at hl 0 rfl) ?_
      refine lv_bipush (v := 60) hx hb dX8_parseSum_8 (by decide) ?_
      refine lv_icmp_ge (tgt := 74) hx hb dX8_parseSum_10 (by decide) (fun c_9 => ?_) (fun c_9 => ?_)
      · have dc_9 := c_le (a := 60) (b := y_7.toInt) (by decide) rfl c_9
        exact W.vret hx hb hr (fun t ht hW => ⟨⟨S_8, rfl, ⟨hIS_8, YS_8⟩, ⟨by rw [ht]; exact hP, va_K.moved hW.alike hK, hD⟩⟩, hS.F ht⟩) hS.2.2 dX8_parseSum_74
      · have dc_9 := c_nle (a := 60) (b := y_7.toInt) (by decide) rfl c_9
        refine lv_aload_n hx hb dX8_parseSum_13 rfl (lv_at hl 1 rfl) ?_
        have t_10 : oty S_8 o 8 := (oX.ty XS_8 (oX.ty XS_4 to))
        obtain ⟨q_11, hq_11⟩ := og (cq := cq) t_10.1 (oE_8 t_10.2)
        refine va_get (D := (dC, dI)) (ci := 8) (v := .int (oI S_8 o 5)) (C := RX8) (T := TX8) (N := 6) hx hb hts in_wsX8_parseSum_X8 hown hK hP q_11 hq_11 rfl 5 (by decide) (hts (.fieldLink RX8 28 "ShipOffice$Tape" "fault" "I") iw_X8_parseSum_1) (fun _ h9 => h9) rfl dX8_parseSum_14 ?_
        refine lv_topi (fun x_12 ex_12 => ?_)
        clear ex_12
        refine lv_if_ge (tgt := 74) hx hb dX8_parseSum_17 (by decide) (fun c_13 => ?_) (fun c_13 => ?_)
        · have dc_13 := c_le (a := 0) (b := x_12.toInt) (by decide) rfl c_13
          exact W.vret hx hb hr (fun t ht hW => ⟨⟨S_8, rfl, ⟨hIS_8, YS_8⟩, ⟨by rw [ht]; exact hP, va_K.moved hW.alike hK, hD⟩⟩, hS.F ht⟩) hS.2.2 dX8_parseSum_74
        · have dc_13 := c_nle (a := 0) (b := x_12.toInt) (by decide) rfl c_13
          refine lv_aload_n hx hb dX8_parseSum_20 rfl (lv_at hl 1 rfl) ?_
          refine lv_bipush (v := 43) hx hb dX8_parseSum_21 (by decide) ?_
          have hFc : ∀ q, va_A [] H.size q → A q := pu_free hS hA
          refine va_calli (va_runV (As := [.int 43]) (rest := []) ⟨hx, hb, hml, hown, hts⟩ (c_X8_sees l dC dI H.size cq S_8 hIS_8 o t_10 43) (cwV 1 hts gX8_parseSum_X8_sees rfl rfl rfl (by decide +kernel) ⟨(Nat.le_of_ble_eq_true rfl), (Nat.le_of_ble_eq_true rfl)⟩) (pr_V (r := (RX8, TX8, 6)) hP hK hD q_11 8 rfl hq_11) rfl rfl hl.1 rfl (lv_room (Nat.le_of_ble_eq_true rfl)) dX8_parseSum_23 ⟨(Nat.le_of_ble_eq_true rfl), (Nat.le_of_ble_eq_true rfl)⟩) hS (fun q _ h => hFc q h) hFc (fun r_15 u t H locs ht hvm w_14 hB hz1 hk1 hS => ?_)
          have hP := pu_keep hP hk1
          clear hk1 hz1 hvm hB ht hFc
          obtain ⟨hb_16, hx_17⟩ := w_14
          refine lv_if_ne (tgt := 38) hx hb dX8_parseSum_26 (by decide) (fun c_18 => ?_) (fun c_18 => ?_)
          · have dc_18 := c_ne (a := r_15.toInt) (b := 0) rfl (by decide) c_18
            have hi_19 := Or.resolve_left hx_17 c_18
            refine lv_aload_n hx hb dX8_parseSum_38 rfl (lv_at hl 1 rfl) ?_
            obtain ⟨b_20, hb_20⟩ := oInv.nn (i := 0) hIS_8 t_10 rfl
            refine va_get (D := (dC, dI)) (ci := 8) (v := .ref b_20) (C := RX8) (T := TX8) (N := 6) hx hb hts in_wsX8_parseSum_X8 hown hK hP q_11 hq_11 rfl 0 (by decide) (hts (.fieldLink RX8 9 "ShipOffice$Tape" "bytes" "[I") iw_X8_parseSum_2) (fun _ h9 => h9) (o_rd hb_20) dX8_parseSum_39 ?_
            have tb_20 : oty S_8 b_20 160 := oInv.rd hIS_8 t_10.2 hb_20 rfl rfl
            refine lv_aload_n hx hb dX8_parseSum_42 rfl (lv_at hl 1 rfl) ?_
            refine va_get (D := (dC, dI)) (ci := 8) (v := .int (oI S_8 o 4)) (C := RX8) (T := TX8) (N := 6) hx hb hts in_wsX8_parseSum_X8 hown hK hP q_11 hq_11 rfl 4 (by decide) (hts (.fieldLink RX8 22 "ShipOffice$Tape" "at" "I") iw_X8_parseSum_3) (fun _ h9 => h9) rfl dX8_parseSum_43 ?_
            refine lv_topi (fun x_21 ex_21 => ?_)
            have hx_21 : 0 ≤ x_21.toInt ∧ x_21.toInt ≤ 60 := iv_of ex_21 (oInv.iv hIS_8 t_10.2 rfl rfl)
            have gx_21 : x_21.toInt = (oI S_8 o 4).toInt := iv_to ex_21
            clear ex_21
            obtain ⟨q_22, hq_22⟩ := og (cq := cq) tb_20.1 (oE_a1 (n := 60) tb_20.2 (by decide))
            refine va_iald hx hb hK hP q_22 0 hq_22 rfl (vp_in_iff.mpr (by omega)) dX8_parseSum_46 ?_
            refine lv_topi (fun x_23 ex_23 => ?_)
            clear ex_23
            refine lv_istore_n (lv' := [(3, .int x_23), (2, .int y_7), (0, .ref o), (1, .int x1)]) hx hb dX8_parseSum_47 rfl hl (by decide) rfl (fun ls hl => ?_)
            refine lv_aload_n hx hb dX8_parseSum_48 rfl (lv_at hl 2 rfl) ?_
            refine lv_dup hx hb dX8_parseSum_49 rfl ?_
            refine va_get (D := (dC, dI)) (ci := 8) (v := .int (oI S_8 o 4)) (C := RX8) (T := TX8) (N := 6) hx hb hts in_wsX8_parseSum_X8 hown hK hP q_11 hq_11 rfl 4 (by decide) (hts (.fieldLink RX8 22 "ShipOffice$Tape" "at" "I") iw_X8_parseSum_3) (fun _ h9 => h9) rfl dX8_parseSum_50 ?_
            refine lv_topi (fun x_24 ex_24 => ?_)
            have hx_24 : 0 ≤ x_24.toInt ∧ x_24.toInt ≤ 60 := iv_of ex_24 (oInv.iv hIS_8 t_10.2 rfl rfl)
            have gx_24 : x_24.toInt = (oI S_8 o 4).toInt := iv_to ex_24
            clear ex_24
            refine lv_iconst (v := 1) hx hb dX8_parseSum_53 (by decide) ?_
            refine lv_iadd hx hb dX8_parseSum_54 ?_
            refine lv_topi (fun x_25 ex_25 => ?_)
            have hx_25 : x_25.toInt = x_24.toInt + 1 := (iv_to ex_25).trans (ad_i rfl (by decide) (by omega) (by omega))
            clear ex_25
            refine va_put (D := (dC, dI)) (ci := 8) (v := .int x_25) (ty := .int) (C := RX8) (T := TX8) (N := 6) hx hb hts in_wsX8_parseSum_X8 tyX8 tyX8_ok nmX8 hown hK hP hD hS q_11 hq_11 rfl 4 (by decide) (hts (.fieldLink RX8 22 "ShipOffice$Tape" "at" "I") iw_X8_parseSum_3) (fun _ h9 => h9) rfl (by decide +kernel) rfl rfl (Nat.le_of_ble_eq_true rfl) dX8_parseSum_55 (fun H locs hP1 hD1 hS => ?_)
            obtain ⟨S_26, eS_26⟩ : ∃ zq, zq = setI S_8 o 4 x_25 := ⟨_, rfl⟩
            have hP : va_P (dC, dI) vwCl (oW cq S_26) H := by rw [eS_26]; exact cP (oset t_10.1 hq_11 hD rfl (he_8_4 t_10.2) neI) hP1
            have hD : va_D A (oW cq S_26) := by rw [eS_26]; exact cD (oset t_10.1 hq_11 hD rfl (he_8_4 t_10.2) neI) hD1
            clear hP1 hD1
            have hIS_26 : oInv S_26 := by rw [eS_26]; exact oInv.I0 (k := 8) (lo := 0) (hi := 60) hIS_8 t_10.2 (by decide) rfl rfl rfl (by omega)
            have XS_26 : oX [804] S_8 S_26 := by rw [eS_26]; exact oX.I (k := 8) (key := 804) t_10.2 rfl (List.mem_singleton.mpr rfl)
            have X_27 : oX [803, 804, 805, 2063] Z S_26 := oX.st YS_8 XS_26 (by decide)
            have g_28 : (oI S_26 o 4).toInt = x_25.toInt := by rw [eS_26, setI_same]
            refine lv_aload_n hx hb dX8_parseSum_58 rfl (lv_at hl 2 rfl) ?_
            refine lv_iload_n hx hb dX8_parseSum_59 rfl (lv_at hl 3 rfl) ?_
            have t_29 : oty S_26 o 8 := (oX.ty XS_26 t_10)
            have hFc := o_free hD hS hA
            obtain ⟨q_30, hq_30⟩ := og (cq := cq) t_29.1 (oE_8 t_29.2)
            refine va_callv (va_runV (As := [.int x1]) (rest := []) ⟨hx, hb, hml, hown, hts⟩ (c_X8_parseTerm_0 l dC dI H.size tL tS tG cq S_26 hIS_26 o t_29 x1 (by omega)) (cwV 1 hts gX8_parseSum_X8_parseTerm rfl rfl rfl (by decide +kernel) ⟨(Nat.le_of_ble_eq_true rfl), (Nat.le_of_ble_eq_true rfl)⟩) (pr_VO (r := (RX8, TX8, 6)) hP hK hD q_30 8 rfl hq_30 (hZ.go hS hFc)) rfl rfl hl.1 rfl (lv_room (Nat.le_of_ble_eq_true rfl)) dX8_parseSum_60 ⟨(Nat.le_of_ble_eq_true rfl), (Nat.le_of_ble_eq_true rfl)⟩) hS (fun q _ h => hFc q h) hFc (fun u t H locs ht hvm w_31 hB hz1 hk1 hS => ?_)
            obtain ⟨S_33, rfl⟩ : ∃ z, z = u := ⟨_, rfl⟩
            obtain ⟨hP1, hK1, hD1⟩ := hB
            rw [ht] at hP1
            have hP : va_P (dC, dI) vwCl (oW cq S_33) H := hP1
            have hD : va_D A (oW cq S_33) := hD1.weaken (fun _ _ _ h => hFc _ h)
            clear hP1 hK1 hD1 hk1 hz1 hvm ht hFc
            obtain ⟨hIS_33, XS_33⟩ := w_31
            have X_34 : oX [803, 804, 805, 2063] Z S_33 := oX.st X_27 XS_33 (by decide)
            refine lv_aload_n hx hb dX8_parseSum_63 rfl (lv_at hl 2 rfl) ?_
            refine lv_iload_n hx hb dX8_parseSum_64 rfl (lv_at hl 0 rfl) ?_
            have t_35 : oty S_33 o 8 := (oX.ty XS_33 t_29)
            have hFc := o_free hD hS hA
            obtain ⟨q_36, hq_36⟩ := og (cq := cq) t_35.1 (oE_8 t_35.2)
            refine va_callv (va_runV (As := [.int x_23]) (rest := []) ⟨hx, hb, hml, hown, hts⟩ (c_X8_emitSign l dC dI H.size tL tS tG cq S_33 hIS_33 o t_35 x_23) (cwV 1 hts gX8_parseSum_X8_emitSign rfl rfl rfl (by decide +kernel) ⟨(Nat.le_of_ble_eq_true rfl), (Nat.le_of_ble_eq_true rfl)⟩) (pr_VO (r := (RX8, TX8, 6)) hP hK hD q_36 8 rfl hq_36 (hZ.go hS hFc)) rfl rfl hl.1 rfl (lv_room (Nat.le_of_ble_eq_true rfl)) dX8_parseSum_65 ⟨(Nat.le_of_ble_eq_true rfl), (Nat.le_of_ble_eq_true rfl)⟩) hS (fun q _ h => hFc q h) hFc (fun u t H locs ht hvm w_37 hB hz1 hk1 hS => ?_)
            obtain ⟨S_39, rfl⟩ : ∃ z, z = u := ⟨_, rfl⟩
            obtain ⟨hP1, hK1, hD1⟩ := hB
            rw [ht] at hP1
            have hP : va_P (dC, dI) vwCl (oW cq S_39) H := hP1
            have hD : va_D A (oW cq S_39) := hD1.weaken (fun _ _ _ h => hFc _ h)
            clear hP1 hK1 hD1 hk1 hz1 hvm ht hFc
            obtain ⟨hIS_39, XS_39⟩ := w_37
            have X_40 : oX [803, 804, 805, 2063] Z S_39 := oX.st X_34 XS_39 (by decide)
            obtain ⟨x_41, ex_41⟩ : ∃ zq : Int32, y_7 + 1 = zq := ⟨_, rfl⟩
            have hx_41 : x_41.toInt = y_7.toInt + 1 := (iv_to ex_41).symm.trans (ad_i rfl (by decide) (by omega) (by omega))
            refine lv_iinc (v := x_41) (lv' := [(2, .int x_41), (3, .int x_23), (0, .ref o), (1, .int x1)]) hx hb dX8_parseSum_68 hl (k := 1) rfl ex_41 (by decide) rfl (fun ls hl => ?_)
            clear ex_41
            refine lv_goto (tgt := 7) hx hb dX8_parseSum_71 (by decide) ?_
            exact ih (n - 1) (by omega) x_41 S_39 _ _ ls (by omega) (by omega) hIS_39 (oX.st (oX.st (oX.st (oX.st oX.rf XS_8 (by decide)) XS_26 (by decide)) XS_33 (by decide)) XS_39 (by decide)) hP hD hS (lv_sub hl [0, 2, 3] rfl)
          · have dc_18 := c_eq (a := r_15.toInt) (b := 0) rfl (by decide) c_18
            refine lv_aload_n hx hb dX8_parseSum_29 rfl (lv_at hl 1 rfl) ?_
            refine lv_bipush (v := 45) hx hb dX8_parseSum_30 (by decide) ?_
            have hFc : ∀ q, va_A [] H.size q → A q := pu_free hS hA
            refine va_calli (va_runV (As := [.int 45]) (rest := []) ⟨hx, hb, hml, hown, hts⟩ (c_X8_sees l dC dI H.size cq S_8 hIS_8 o t_10 45) (cwV 1 hts gX8_parseSum_X8_sees rfl rfl rfl (by decide +kernel) ⟨(Nat.le_of_ble_eq_true rfl), (Nat.le_of_ble_eq_true rfl)⟩) (pr_V (r := (RX8, TX8, 6)) hP hK hD q_11 8 rfl hq_11) rfl rfl hl.1 rfl (lv_room (Nat.le_of_ble_eq_true rfl)) dX8_parseSum_32 ⟨(Nat.le_of_ble_eq_true rfl), (Nat.le_of_ble_eq_true rfl)⟩) hS (fun q _ h => hFc q h) hFc (fun r_43 u t H locs ht hvm w_42 hB hz1 hk1 hS => ?_)
            have hP := pu_keep hP hk1
            clear hk1 hz1 hvm hB ht hFc
            obtain ⟨hb_44, hx_45⟩ := w_42
            refine lv_if_eq (tgt := 74) hx hb dX8_parseSum_35 (by decide) (fun c_46 => ?_) (fun c_46 => ?_)
            · have dc_46 := c_eq (a := r_43.toInt) (b := 0) rfl (by decide) c_46
              exact W.vret hx hb hr (fun t ht hW => ⟨⟨S_8, rfl, ⟨hIS_8, YS_8⟩, ⟨by rw [ht]; exact hP, va_K.moved hW.alike hK, hD⟩⟩, hS.F ht⟩) hS.2.2 dX8_parseSum_74
            · have dc_46 := c_ne (a := r_43.toInt) (b := 0) rfl (by decide) c_46
              have hi_47 := Or.resolve_left hx_45 c_46
              refine lv_aload_n hx hb dX8_parseSum_38 rfl (lv_at hl 1 rfl) ?_
              obtain ⟨b_48, hb_48⟩ := oInv.nn (i := 0) hIS_8 t_10 rfl
              refine va_get (D := (dC, dI)) (ci := 8) (v := .ref b_48) (C := RX8) (T := TX8) (N := 6) hx hb hts in_wsX8_parseSum_X8 hown hK hP q_11 hq_11 rfl 0 (by decide) (hts (.fieldLink RX8 9 "ShipOffice$Tape" "bytes" "[I") iw_X8_parseSum_2) (fun _ h9 => h9) (o_rd hb_48) dX8_parseSum_39 ?_
              have tb_48 : oty S_8 b_48 160 := oInv.rd hIS_8 t_10.2 hb_48 rfl rfl
              refine lv_aload_n hx hb dX8_parseSum_42 rfl (lv_at hl 1 rfl) ?_
              refine va_get (D := (dC, dI)) (ci := 8) (v := .int (oI S_8 o 4)) (C := RX8) (T := TX8) (N := 6) hx hb hts in_wsX8_parseSum_X8 hown hK hP q_11 hq_11 rfl 4 (by decide) (hts (.fieldLink RX8 22 "ShipOffice$Tape" "at" "I") iw_X8_parseSum_3) (fun _ h9 => h9) rfl dX8_parseSum_43 ?_
              refine lv_topi (fun x_49 ex_49 => ?_)
              have hx_49 : 0 ≤ x_49.toInt ∧ x_49.toInt ≤ 60 := iv_of ex_49 (oInv.iv hIS_8 t_10.2 rfl rfl)
              have gx_49 : x_49.toInt = (oI S_8 o 4).toInt := iv_to ex_49
              clear ex_49
              obtain ⟨q_50, hq_50⟩ := og (cq := cq) tb_48.1 (oE_a1 (n := 60) tb_48.2 (by decide))
              refine va_iald hx hb hK hP q_50 0 hq_50 rfl (vp_in_iff.mpr (by omega)) dX8_parseSum_46 ?_
              refine lv_topi (fun x_51 ex_51 => ?_)
              clear ex_51
              refine lv_istore_n (lv' := [(3, .int x_51), (2, .int y_7), (0, .ref o), (1, .int x1)]) hx hb dX8_parseSum_47 rfl hl (by decide) rfl (fun ls hl => ?_)
              refine lv_aload_n hx hb dX8_parseSum_48 rfl (lv_at hl 2 rfl) ?_
              refine lv_dup hx hb dX8_parseSum_49 rfl ?_
              refine va_get (D := (dC, dI)) (ci := 8) (v := .int (oI S_8 o 4)) (C := RX8) (T := TX8) (N := 6) hx hb hts in_wsX8_parseSum_X8 hown hK hP q_11 hq_11 rfl 4 (by decide) (hts (.fieldLink RX8 22 "ShipOffice$Tape" "at" "I") iw_X8_parseSum_3) (fun _ h9 => h9) rfl dX8_parseSum_50 ?_
              refine lv_topi (fun x_52 ex_52 => ?_)
              have hx_52 : 0 ≤ x_52.toInt ∧ x_52.toInt ≤ 60 := iv_of ex_52 (oInv.iv hIS_8 t_10.2 rfl rfl)
              have gx_52 : x_52.toInt = (oI S_8 o 4).toInt := iv_to ex_52
              clear ex_52
              refine lv_iconst (v := 1) hx hb dX8_parseSum_53 (by decide) ?_
              refine lv_iadd hx hb dX8_parseSum_54 ?_
              refine lv_topi (fun x_53 ex_53 => ?_)
              have hx_53 : x_53.toInt = x_52.toInt + 1 := (iv_to ex_53).trans (ad_i rfl (by decide) (by omega) (by omega))
              clear ex_53
              refine va_put (D := (dC, dI)) (ci := 8) (v := .int x_53) (ty := .int) (C := RX8) (T := TX8) (N := 6) hx hb hts in_wsX8_parseSum_X8 tyX8 tyX8_ok nmX8 hown hK hP hD hS q_11 hq_11 rfl 4 (by decide) (hts (.fieldLink RX8 22 "ShipOffice$Tape" "at" "I") iw_X8_parseSum_3) (fun _ h9 => h9) rfl (by decide +kernel) rfl rfl (Nat.le_of_ble_eq_true rfl) dX8_parseSum_55 (fun H locs hP1 hD1 hS => ?_)
              obtain ⟨S_54, eS_54⟩ : ∃ zq, zq = setI S_8 o 4 x_53 := ⟨_, rfl⟩
              have hP : va_P (dC, dI) vwCl (oW cq S_54) H := by rw [eS_54]; exact cP (oset t_10.1 hq_11 hD rfl (he_8_4 t_10.2) neI) hP1
              have hD : va_D A (oW cq S_54) := by rw [eS_54]; exact cD (oset t_10.1 hq_11 hD rfl (he_8_4 t_10.2) neI) hD1
              clear hP1 hD1
              have hIS_54 : oInv S_54 := by rw [eS_54]; exact oInv.I0 (k := 8) (lo := 0) (hi := 60) hIS_8 t_10.2 (by decide) rfl rfl rfl (by omega)
              have XS_54 : oX [804] S_8 S_54 := by rw [eS_54]; exact oX.I (k := 8) (key := 804) t_10.2 rfl (List.mem_singleton.mpr rfl)
              have X_55 : oX [803, 804, 805, 2063] Z S_54 := oX.st YS_8 XS_54 (by decide)
              have g_56 : (oI S_54 o 4).toInt = x_53.toInt := by rw [eS_54, setI_same]
              refine lv_aload_n hx hb dX8_parseSum_58 rfl (lv_at hl 2 rfl) ?_
              refine lv_iload_n hx hb dX8_parseSum_59 rfl (lv_at hl 3 rfl) ?_
              have t_57 : oty S_54 o 8 := (oX.ty XS_54 t_10)
              have hFc := o_free hD hS hA
              obtain ⟨q_58, hq_58⟩ := og (cq := cq) t_57.1 (oE_8 t_57.2)
              refine va_callv (va_runV (As := [.int x1]) (rest := []) ⟨hx, hb, hml, hown, hts⟩ (c_X8_parseTerm_0 l dC dI H.size tL tS tG cq S_54 hIS_54 o t_57 x1 (by omega)) (cwV 1 hts gX8_parseSum_X8_parseTerm rfl rfl rfl (by decide +kernel) ⟨(Nat.le_of_ble_eq_true rfl), (Nat.le_of_ble_eq_true rfl)⟩) (pr_VO (r := (RX8, TX8, 6)) hP hK hD q_58 8 rfl hq_58 (hZ.go hS hFc)) rfl rfl hl.1 rfl (lv_room (Nat.le_of_ble_eq_true rfl)) dX8_parseSum_60 ⟨(Nat.le_of_ble_eq_true rfl), (Nat.le_of_ble_eq_true rfl)⟩) hS (fun q _ h => hFc q h) hFc (fun u t H locs ht hvm w_59 hB hz1 hk1 hS => ?_)
              obtain ⟨S_61, rfl⟩ : ∃ z, z = u := ⟨_, rfl⟩
              obtain ⟨hP1, hK1, hD1⟩ := hB
              rw [ht] at hP1
              have hP : va_P (dC, dI) vwCl (oW cq S_61) H := hP1
              have hD : va_D A (oW cq S_61) := hD1.weaken (fun _ _ _ h => hFc _ h)
              clear hP1 hK1 hD1 hk1 hz1 hvm ht hFc
              obtain ⟨hIS_61, XS_61⟩ := w_59
              have X_62 : oX [803, 804, 805, 2063] Z S_61 := oX.st X_55 XS_61 (by decide)
              refine lv_aload_n hx hb dX8_parseSum_63 rfl (lv_at hl 2 rfl) ?_
              refine lv_iload_n hx hb dX8_parseSum_64 rfl (lv_at hl 0 rfl) ?_
              have t_63 : oty S_61 o 8 := (oX.ty XS_61 t_57)
              have hFc := o_free hD hS hA
              obtain ⟨q_64, hq_64⟩ := og (cq := cq) t_63.1 (oE_8 t_63.2)
              refine va_callv (va_runV (As := [.int x_51]) (rest := []) ⟨hx, hb, hml, hown, hts⟩ (c_X8_emitSign l dC dI H.size tL tS tG cq S_61 hIS_61 o t_63 x_51) (cwV 1 hts gX8_parseSum_X8_emitSign rfl rfl rfl (by decide +kernel) ⟨(Nat.le_of_ble_eq_true rfl), (Nat.le_of_ble_eq_true rfl)⟩) (pr_VO (r := (RX8, TX8, 6)) hP hK hD q_64 8 rfl hq_64 (hZ.go hS hFc)) rfl rfl hl.1 rfl (lv_room (Nat.le_of_ble_eq_true rfl)) dX8_parseSum_65 ⟨(Nat.le_of_ble_eq_true rfl), (Nat.le_of_ble_eq_true rfl)⟩) hS (fun q _ h => hFc q h) hFc (fun u t H locs ht hvm w_65 hB hz1 hk1 hS => ?_)
              obtain ⟨S_67, rfl⟩ : ∃ z, z = u := ⟨_, rfl⟩
              obtain ⟨hP1, hK1, hD1⟩ := hB
              rw [ht] at hP1
              have hP : va_P (dC, dI) vwCl (oW cq S_67) H := hP1
              have hD : va_D A (oW cq S_67) := hD1.weaken (fun _ _ _ h => hFc _ h)
              clear hP1 hK1 hD1 hk1 hz1 hvm ht hFc
              obtain ⟨hIS_67, XS_67⟩ := w_65
              have X_68 : oX [803, 804, 805, 2063] Z S_67 := oX.st X_62 XS_67 (by decide)
              obtain ⟨x_69, ex_69⟩ : ∃ zq : Int32, y_7 + 1 = zq := ⟨_, rfl⟩
              have hx_69 : x_69.toInt = y_7.toInt + 1 := (iv_to ex_69).symm.trans (ad_i rfl (by decide) (by omega) (by omega))
              refine lv_iinc (v := x_69) (lv' := [(2, .int x_69), (3, .int x_51), (0, .ref o), (1, .int x1)]) hx hb dX8_parseSum_68 hl (k := 1) rfl ex_69 (by decide) rfl (fun ls hl => ?_)
              clear ex_69
              refine lv_goto (tgt := 7) hx hb dX8_parseSum_71 (by decide) ?_
              exact ih (n - 1) (by omega) x_69 S_67 _ _ ls (by omega) (by omega) hIS_67 (oX.st (oX.st (oX.st (oX.st oX.rf XS_8 (by decide)) XS_54 (by decide)) XS_61 (by decide)) XS_67 (by decide)) hP hD hS (lv_sub hl [0, 2, 3] rfl)
  have kc_70 : (0 : Int32).toInt = 0 := by decide
  exact cut_6 61 0 S_4 _ _ ls (by omega) (by decide) hIS_4 oX.rf hP hD hS (lv_sub hl [0, 1, 2] rfl)
set_option maxHeartbeats 4000000 in
set_option maxRecDepth 100000 in
theorem c_X8_parse (l : Launch) (dC : Nat → ClassId) (dI : Nat → Nat → Nat) (sz : Nat) (tL tS tG : Nat) (cq : Nat → ClassId) (Z : oS) (gI : oInv Z) (o : Nat) (to : oty Z o 8) : Met l yX8_parse wsX8_parse ({ frames := 25, cells := 0, slots := 0, locals := 561 }) (va_Pc [.ref o] (pcO (dC, dI) (oT cq) (oW cq Z) sz tL tS tG (oW cq Z))) (va_Qi (fun (r : Int32) (u : oS) => oInv u ∧ oX [803, 804, 805, 2063] Z u) (fun u t => va_P (dC, dI) vwCl (oW cq u) t.heap ∧ va_K (dC, dI) vwCl (oT cq) t ∧ va_D (va_A (oW cq Z) sz) (oW cq u)) (va_A (oW cq Z) sz)) 0 0 (va_A (oW cq Z) sz) := by
  refine Met.ofW (cc := cX8_parse) (maxL := 1) (ret := (some .int)) (by decide) rfl ?_
  intro p e s m args below meth c s₁ B hml hv
  obtain ⟨rfl, ⟨hsz, hP, hK, hD0⟩, hZ⟩ := hv
  have hx := B.exec
  have hb := B.bytes
  have hr := B.returns
  have hts := atoms_spec (ws := wsX8_parse) B.pre
  have hown : s.vm.findClass RX8 = some m.cls := findClass_of_methodNamed B.named
  have hlocks := B.notSynchronized
  subst hsz
  have hD := hD0.self (sz := s.heap.size)
  generalize hAe : va_A (oW cq Z) s.heap.size = A at hD hZ ⊢
  have hA : ∀ q : Nat, s.heap.size ≤ q → A q := fun q h => by rw [← hAe]; exact Or.inr h
  have hS : va_S A s.heap s.heap [] := va_S.rf
  have hP : va_P (dC, dI) vwCl (oW cq Z) s.heap := hP
  have hl := lv_entry ([.ref o]) (n := 1) (Nat.le_of_ble_eq_true rfl)
  rw [lg_entry_eq]
  generalize (lg_sl ([.ref o]) ++ List.replicate (1 - (lg_sl ([.ref o])).length) Slot.unset).toArray = ls at hl ⊢
  have hl : lv_has ls 1 [(0, .ref o)] := hl
  refine lv_aload_n hx hb dX8_parse_0 rfl (lv_at hl 0 rfl) ?_
  refine lv_iconst (v := 0) hx hb dX8_parse_1 (by decide) ?_
  obtain ⟨q_1, hq_1⟩ := og (cq := cq) to.1 (oE_8 to.2)
  refine va_put (D := (dC, dI)) (ci := 8) (v := .int 0) (ty := .int) (C := RX8) (T := TX8) (N := 6) hx hb hts in_wsX8_parse_X8 tyX8 tyX8_ok nmX8 hown hK hP hD hS q_1 hq_1 rfl 4 (by decide) (hts (.fieldLink RX8 22 "ShipOffice$Tape" "at" "I") iw_X8_parse_1) (fun _ h9 => h9) rfl (by decide +kernel) rfl rfl (Nat.le_of_ble_eq_true rfl) dX8_parse_2 (fun H locs hP1 hD1 hS => ?_)
  obtain ⟨S_2, eS_2⟩ : ∃ zq, zq = setI Z o 4 0 := ⟨_, rfl⟩
  have hP : va_P (dC, dI) vwCl (oW cq S_2) H := by rw [eS_2]; exact cP (oset to.1 hq_1 hD rfl (he_8_4 to.2) neI) hP1
  have hD : va_D A (oW cq S_2) := by rw [eS_2]; exact cD (oset to.1 hq_1 hD rfl (he_8_4 to.2) neI) hD1
  clear hP1 hD1
  have hIS_2 : oInv S_2 := by rw [eS_2]; exact oInv.I0 (k := 8) (lo := 0) (hi := 60) gI to.2 (by decide) rfl rfl rfl (by decide)
  have XS_2 : oX [804] Z S_2 := by rw [eS_2]; exact oX.I (k := 8) (key := 804) to.2 rfl (List.mem_singleton.mpr rfl)
  have X_3 : oX [803, 804, 805, 2063] Z S_2 := oX.st oX.rf XS_2 (by decide)
  refine lv_aload_n hx hb dX8_parse_5 rfl (lv_at hl 0 rfl) ?_
  refine lv_iconst (v := 0) hx hb dX8_parse_6 (by decide) ?_
  have t_4 : oty S_2 o 8 := (oX.ty XS_2 to)
  obtain ⟨q_5, hq_5⟩ := og (cq := cq) t_4.1 (oE_8 t_4.2)
  refine va_put (D := (dC, dI)) (ci := 8) (v := .int 0) (ty := .int) (C := RX8) (T := TX8) (N := 6) hx hb hts in_wsX8_parse_X8 tyX8 tyX8_ok nmX8 hown hK hP hD hS q_5 hq_5 rfl 3 (by decide) (hts (.fieldLink RX8 25 "ShipOffice$Tape" "codeSize" "I") iw_X8_parse_2) (fun _ h9 => h9) rfl (by decide +kernel) rfl rfl (Nat.le_of_ble_eq_true rfl) dX8_parse_7 (fun H locs hP1 hD1 hS => ?_)
  obtain ⟨S_6, eS_6⟩ : ∃ zq, zq = setI S_2 o 3 0 := ⟨_, rfl⟩
  have hP : va_P (dC, dI) vwCl (oW cq S_6) H := by rw [eS_6]; exact cP (oset t_4.1 hq_5 hD rfl (he_8_3 t_4.2) neI) hP1
  have hD : va_D A (oW cq S_6) := by rw [eS_6]; exact cD (oset t_4.1 hq_5 hD rfl (he_8_3 t_4.2) neI) hD1
  clear hP1 hD1
  have hIS_6 : oInv S_6 := by rw [eS_6]; exact oInv.I0 (k := 8) (lo := 0) (hi := 60) hIS_2 t_4.2 (by decide) rfl rfl rfl (by decide)
  have XS_6 : oX [803] S_2 S_6 := by rw [eS_6]; exact oX.I (k := 8) (key := 803) t_4.2 rfl (List.mem_singleton.mpr rfl)
  have X_7 : oX [803, 804, 805, 2063] Z S_6 := oX.st X_3 XS_6 (by decide)
  refine lv_aload_n hx hb dX8_parse_10 rfl (lv_at hl 0 rfl) ?_
  refine lv_iconst (v := (-1)) hx hb dX8_parse_11 (by decide) ?_
  have t_8 : oty S_6 o 8 := (oX.ty XS_6 t_4)
  obtain ⟨q_9, hq_9⟩ := og (cq := cq) t_8.1 (oE_8 t_8.2)
  refine va_put (D := (dC, dI)) (ci := 8) (v := .int (-1)) (ty := .int) (C := RX8) (T := TX8) (N := 6) hx hb hts in_wsX8_parse_X8 tyX8 tyX8_ok nmX8 hown hK hP hD hS q_9 hq_9 rfl 5 (by decide) (hts (.fieldLink RX8 28 "ShipOffice$Tape" "fault" "I") iw_X8_parse_3) (fun _ h9 => h9) rfl (by decide +kernel) rfl rfl (Nat.le_of_ble_eq_true rfl) dX8_parse_12 (fun H locs hP1 hD1 hS => ?_)
  obtain ⟨S_10, eS_10⟩ : ∃ zq, zq = setI S_6 o 5 (-1) := ⟨_, rfl⟩
  have hP : va_P (dC, dI) vwCl (oW cq S_10) H := by rw [eS_10]; exact cP (oset t_8.1 hq_9 hD rfl (he_8_5 t_8.2) neI) hP1
  have hD : va_D A (oW cq S_10) := by rw [eS_10]; exact cD (oset t_8.1 hq_9 hD rfl (he_8_5 t_8.2) neI) hD1
  clear hP1 hD1
  have hIS_10 : oInv S_10 := by rw [eS_10]; exact oInv.I0 (k := 8) (lo := -2147483648) (hi := 2147483647) hIS_6 t_8.2 (by decide) rfl rfl rfl (iv_all _)
  have XS_10 : oX [805] S_6 S_10 := by rw [eS_10]; exact oX.I (k := 8) (key := 805) t_8.2 rfl (List.mem_singleton.mpr rfl)
  have X_11 : oX [803, 804, 805, 2063] Z S_10 := oX.st X_7 XS_10 (by decide)
  refine lv_aload_n hx hb dX8_parse_15 rfl (lv_at hl 0 rfl) ?_
  refine lv_iconst (v := 0) hx hb dX8_parse_16 (by decide) ?_
  have t_12 : oty S_10 o 8 := (oX.ty XS_10 t_8)
  have hFc := o_free hD hS hA
  obtain ⟨q_13, hq_13⟩ := og (cq := cq) t_12.1 (oE_8 t_12.2)
  refine va_callv (va_runV (As := [.int 0]) (rest := []) ⟨hx, hb, hml, hown, hts⟩ (c_X8_parseSum_0 l dC dI H.size tL tS tG cq S_10 hIS_10 o t_12 0 (by decide)) (cwV 1 hts gX8_parse_X8_parseSum rfl rfl rfl (by decide +kernel) ⟨(Nat.le_of_ble_eq_true rfl), (Nat.le_of_ble_eq_true rfl)⟩) (pr_VO (r := (RX8, TX8, 6)) hP hK hD q_13 8 rfl hq_13 (hZ.go hS hFc)) rfl rfl hl.1 rfl (lv_room (Nat.le_of_ble_eq_true rfl)) dX8_parse_17 ⟨(Nat.le_of_ble_eq_true rfl), (Nat.le_of_ble_eq_true rfl)⟩) hS (fun q _ h => hFc q h) hFc (fun u t H locs ht hvm w_14 hB hz1 hk1 hS => ?_)
  obtain ⟨S_16, rfl⟩ : ∃ z, z = u := ⟨_, rfl⟩
  obtain ⟨hP1, hK1, hD1⟩ := hB
  rw [ht] at hP1
  have hP : va_P (dC, dI) vwCl (oW cq S_16) H := hP1
  have hD : va_D A (oW cq S_16) := hD1.weaken (fun _ _ _ h => hFc _ h)
  clear hP1 hK1 hD1 hk1 hz1 hvm ht hFc
  obtain ⟨hIS_16, XS_16⟩ := w_14
  have X_17 : oX [803, 804, 805, 2063] Z S_16 := oX.st X_11 XS_16 (by decide)
  refine lv_aload_n hx hb dX8_parse_20 rfl (lv_at hl 0 rfl) ?_
  have t_18 : oty S_16 o 8 := (oX.ty XS_16 t_12)
  obtain ⟨q_19, hq_19⟩ := og (cq := cq) t_18.1 (oE_8 t_18.2)
  refine va_get (D := (dC, dI)) (ci := 8) (v := .int (oI S_16 o 5)) (C := RX8) (T := TX8) (N := 6) hx hb hts in_wsX8_parse_X8 hown hK hP q_19 hq_19 rfl 5 (by decide) (hts (.fieldLink RX8 28 "ShipOffice$Tape" "fault" "I") iw_X8_parse_3) (fun _ h9 => h9) rfl dX8_parse_21 ?_
  refine lv_topi (fun x_20 ex_20 => ?_)
  clear ex_20
  refine lv_if_ge (tgt := 46) hx hb dX8_parse_24 (by decide) (fun c_21 => ?_) (fun c_21 => ?_)
  · have dc_21 := c_le (a := 0) (b := x_20.toInt) (by decide) rfl c_21
    refine lv_aload_n hx hb dX8_parse_46 rfl (lv_at hl 0 rfl) ?_
    refine va_get (D := (dC, dI)) (ci := 8) (v := .int (oI S_16 o 5)) (C := RX8) (T := TX8) (N := 6) hx hb hts in_wsX8_parse_X8 hown hK hP q_19 hq_19 rfl 5 (by decide) (hts (.fieldLink RX8 28 "ShipOffice$Tape" "fault" "I") iw_X8_parse_3) (fun _ h9 => h9) rfl dX8_parse_47 ?_
    refine lv_topi (fun x_22 ex_22 => ?_)
    clear ex_22
    exact W.iret (v := x_22) hx hb hr (fun t ht hW => ⟨⟨x_22, S_16, rfl, ⟨hIS_16, X_17⟩, ⟨by rw [ht]; exact hP, va_K.moved hW.alike hK, hD⟩⟩, hS.F ht⟩) hS.2.2 dX8_parse_50
  · have dc_21 := c_nle (a := 0) (b := x_20.toInt) (by decide) rfl c_21
    refine lv_aload_n hx hb dX8_parse_27 rfl (lv_at hl 0 rfl) ?_
    refine va_get (D := (dC, dI)) (ci := 8) (v := .int (oI S_16 o 4)) (C := RX8) (T := TX8) (N := 6) hx hb hts in_wsX8_parse_X8 hown hK hP q_19 hq_19 rfl 4 (by decide) (hts (.fieldLink RX8 22 "ShipOffice$Tape" "at" "I") iw_X8_parse_1) (fun _ h9 => h9) rfl dX8_parse_28 ?_
    refine lv_topi (fun x_23 ex_23 => ?_)
    have hx_23 : 0 ≤ x_23.toInt ∧ x_23.toInt ≤ 60 := iv_of ex_23 (oInv.iv hIS_16 t_18.2 rfl rfl)
    have gx_23 : x_23.toInt = (oI S_16 o 4).toInt := iv_to ex_23
    clear ex_23
    refine lv_aload_n hx hb dX8_parse_31 rfl (lv_at hl 0 rfl) ?_
    refine va_get (D := (dC, dI)) (ci := 8) (v := .int (oI S_16 o 1)) (C := RX8) (T := TX8) (N := 6) hx hb hts in_wsX8_parse_X8 hown hK hP q_19 hq_19 rfl 1 (by decide) (hts (.fieldLink RX8 18 "ShipOffice$Tape" "size" "I") iw_X8_parse_4) (fun _ h9 => h9) rfl dX8_parse_32 ?_
    refine lv_topi (fun x_24 ex_24 => ?_)
    have hx_24 : 0 ≤ x_24.toInt ∧ x_24.toInt ≤ 60 := iv_of ex_24 (oInv.iv hIS_16 t_18.2 rfl rfl)
    have gx_24 : x_24.toInt = (oI S_16 o 1).toInt := iv_to ex_24
    clear ex_24
    refine lv_icmp_ge (tgt := 46) hx hb dX8_parse_35 (by decide) (fun c_25 => ?_) (fun c_25 => ?_)
    · have dc_25 := c_le (a := x_24.toInt) (b := x_23.toInt) rfl rfl c_25
      refine lv_aload_n hx hb dX8_parse_46 rfl (lv_at hl 0 rfl) ?_
      refine va_get (D := (dC, dI)) (ci := 8) (v := .int (oI S_16 o 5)) (C := RX8) (T := TX8) (N := 6) hx hb hts in_wsX8_parse_X8 hown hK hP q_19 hq_19 rfl 5 (by decide) (hts (.fieldLink RX8 28 "ShipOffice$Tape" "fault" "I") iw_X8_parse_3) (fun _ h9 => h9) rfl dX8_parse_47 ?_
      refine lv_topi (fun x_26 ex_26 => ?_)
      clear ex_26
      exact W.iret (v := x_26) hx hb hr (fun t ht hW => ⟨⟨x_26, S_16, rfl, ⟨hIS_16, X_17⟩, ⟨by rw [ht]; exact hP, va_K.moved hW.alike hK, hD⟩⟩, hS.F ht⟩) hS.2.2 dX8_parse_50
    · have dc_25 := c_nle (a := x_24.toInt) (b := x_23.toInt) rfl rfl c_25
      refine lv_aload_n hx hb dX8_parse_38 rfl (lv_at hl 0 rfl) ?_
      refine lv_aload_n hx hb dX8_parse_39 rfl (lv_at hl 0 rfl) ?_
      refine va_get (D := (dC, dI)) (ci := 8) (v := .int (oI S_16 o 4)) (C := RX8) (T := TX8) (N := 6) hx hb hts in_wsX8_parse_X8 hown hK hP q_19 hq_19 rfl 4 (by decide) (hts (.fieldLink RX8 22 "ShipOffice$Tape" "at" "I") iw_X8_parse_1) (fun _ h9 => h9) rfl dX8_parse_40 ?_
      refine lv_topi (fun x_27 ex_27 => ?_)
      have hx_27 : 0 ≤ x_27.toInt ∧ x_27.toInt ≤ 60 := iv_of ex_27 (oInv.iv hIS_16 t_18.2 rfl rfl)
      have gx_27 : x_27.toInt = (oI S_16 o 4).toInt := iv_to ex_27
      clear ex_27
      refine va_put (D := (dC, dI)) (ci := 8) (v := .int x_27) (ty := .int) (C := RX8) (T := TX8) (N := 6) hx hb hts in_wsX8_parse_X8 tyX8 tyX8_ok nmX8 hown hK hP hD hS q_19 hq_19 rfl 5 (by decide) (hts (.fieldLink RX8 28 "ShipOffice$Tape" "fault" "I") iw_X8_parse_3) (fun _ h9 => h9) rfl (by decide +kernel) rfl rfl (Nat.le_of_ble_eq_true rfl) dX8_parse_43 (fun H locs hP1 hD1 hS => ?_)
      obtain ⟨S_28, eS_28⟩ : ∃ zq, zq = setI S_16 o 5 x_27 := ⟨_, rfl⟩
      have hP : va_P (dC, dI) vwCl (oW cq S_28) H := by rw [eS_28]; exact cP (oset t_18.1 hq_19 hD rfl (he_8_5 t_18.2) neI) hP1
      have hD : va_D A (oW cq S_28) := by rw [eS_28]; exact cD (oset t_18.1 hq_19 hD rfl (he_8_5 t_18.2) neI) hD1
      clear hP1 hD1
      have hIS_28 : oInv S_28 := by rw [eS_28]; exact oInv.I0 (k := 8) (lo := -2147483648) (hi := 2147483647) hIS_16 t_18.2 (by decide) rfl rfl rfl (iv_all _)
      have XS_28 : oX [805] S_16 S_28 := by rw [eS_28]; exact oX.I (k := 8) (key := 805) t_18.2 rfl (List.mem_singleton.mpr rfl)
      have X_29 : oX [803, 804, 805, 2063] Z S_28 := oX.st X_17 XS_28 (by decide)
      have g_30 : (oI S_28 o 1).toInt = (oI S_16 o 1).toInt := by rw [eS_28, setI_ne (by decide)]
      have g_31 : (oI S_28 o 4).toInt = (oI S_16 o 4).toInt := by rw [eS_28, setI_ne (by decide)]
      refine lv_aload_n hx hb dX8_parse_46 rfl (lv_at hl 0 rfl) ?_
      have t_32 : oty S_28 o 8 := (oX.ty XS_28 t_18)
      obtain ⟨q_33, hq_33⟩ := og (cq := cq) t_32.1 (oE_8 t_32.2)
      refine va_get (D := (dC, dI)) (ci := 8) (v := .int (oI S_28 o 5)) (C := RX8) (T := TX8) (N := 6) hx hb hts in_wsX8_parse_X8 hown hK hP q_33 hq_33 rfl 5 (by decide) (hts (.fieldLink RX8 28 "ShipOffice$Tape" "fault" "I") iw_X8_parse_3) (fun _ h9 => h9) rfl dX8_parse_47 ?_
      refine lv_topi (fun x_34 ex_34 => ?_)
      clear ex_34
      exact W.iret (v := x_34) hx hb hr (fun t ht hW => ⟨⟨x_34, S_28, rfl, ⟨hIS_28, X_29⟩, ⟨by rw [ht]; exact hP, va_K.moved hW.alike hK, hD⟩⟩, hS.F ht⟩) hS.2.2 dX8_parse_50
