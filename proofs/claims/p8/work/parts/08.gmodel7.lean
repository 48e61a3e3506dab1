abbrev cX11_miles : ByteArray := prog_13_method_10_code
def yX11_miles : MethodName := ⟨RX11, "miles", "(III)I"⟩
abbrev cX11_put : ByteArray := prog_13_method_79_code
def yX11_put : MethodName := ⟨RX11, "put", "(I)I"⟩
theorem gw_X11_isPort : wsX11_isPort.all goodWord = true := by decide +kernel
def wsX11_miles : List Cond := .code yX11_miles cX11_miles 5 (some .int) :: ([.fieldLink RX11 13 "ShipOfficeModel" "mile" "[I", .methodLink RX11 174 yX11_isPort, .static yX11_isPort, .initialized RX11, .code yX11_isPort cX11_isPort 1 (some .boolean), .methodLink RX11 161 yX11_isIn, .static yX11_isIn, .code yX11_isIn cX11_isIn 2 (some .boolean), .methodLink RX11 153 yX11_refuse, .instanceMethod yX11_refuse, .selects RX11 yX11_refuse yX11_refuse, .code yX11_refuse cX11_refuse 2 (some .int), .fieldLink RX11 7 "ShipOfficeModel" "refusals" "[I"] ++ wsX110)
theorem il_X11_miles_1 : ∀ w ∈ ([.fieldLink RX11 13 "ShipOfficeModel" "mile" "[I", .methodLink RX11 174 yX11_isPort, .static yX11_isPort, .initialized RX11, .code yX11_isPort cX11_isPort 1 (some .boolean), .methodLink RX11 161 yX11_isIn, .static yX11_isIn, .code yX11_isIn cX11_isIn 2 (some .boolean), .methodLink RX11 153 yX11_refuse, .instanceMethod yX11_refuse, .selects RX11 yX11_refuse yX11_refuse, .code yX11_refuse cX11_refuse 2 (some .int), .fieldLink RX11 7 "ShipOfficeModel" "refusals" "[I"] : List Cond), w ∈ wsX11_miles := fun w h => (List.mem_cons_of_mem _ (List.mem_append_left _ h))
theorem il_X11_miles_2 : ∀ w ∈ wsX110, w ∈ wsX11_miles := fun w h => (List.mem_cons_of_mem _ (List.mem_append_right _ h))
theorem iw_X11_miles_1 : Cond.fieldLink RX11 13 "ShipOfficeModel" "mile" "[I" ∈ wsX11_miles := (mmI il_X11_miles_1 0 rfl)
def wsX11_put : List Cond := .code yX11_put cX11_put 2 (some .int) :: ([.fieldLink RX11 357 "ShipOfficeModel" "rowed" "I", .fieldLink RX11 149 "ShipOfficeModel" "row" "[I", .methodLink RX11 153 yX11_refuse, .instanceMethod yX11_refuse, .selects RX11 yX11_refuse yX11_refuse, .initialized RX11, .code yX11_refuse cX11_refuse 2 (some .int), .fieldLink RX11 7 "ShipOfficeModel" "refusals" "[I"] ++ wsX110)
theorem il_X11_put_1 : ∀ w ∈ ([.fieldLink RX11 357 "ShipOfficeModel" "rowed" "I", .fieldLink RX11 149 "ShipOfficeModel" "row" "[I", .methodLink RX11 153 yX11_refuse, .instanceMethod yX11_refuse, .selects RX11 yX11_refuse yX11_refuse, .initialized RX11, .code yX11_refuse cX11_refuse 2 (some .int), .fieldLink RX11 7 "ShipOfficeModel" "refusals" "[I"] : List Cond), w ∈ wsX11_put := fun w h => (List.mem_cons_of_mem _ (List.mem_append_left _ h))
theorem il_X11_put_2 : ∀ w ∈ wsX110, w ∈ wsX11_put := fun w h => (List.mem_cons_of_mem _ (List.mem_append_right _ h))
theorem iw_X11_put_1 : Cond.fieldLink RX11 357 "ShipOfficeModel" "rowed" "I" ∈ wsX11_put := (mmI il_X11_put_1 0 rfl)
theorem iw_X11_put_2 : Cond.fieldLink RX11 149 "ShipOfficeModel" "row" "[I" ∈ wsX11_put := (mmI il_X11_put_1 1 rfl)
set_option maxRecDepth 100000 in
theorem ggX11_miles_X11_isPort : GoodIn wsX11_miles wsX11_isPort := goodIn_sub (mmC (mmI il_X11_miles_1 4 rfl) (mmC (mmI il_X11_miles_1 5 rfl) (mmC (mmI il_X11_miles_1 6 rfl) (mmC (mmI il_X11_miles_1 3 rfl) (mmC (mmI il_X11_miles_1 7 rfl) mmN))))) gw_X11_isPort
set_option maxRecDepth 20000 in
theorem gX11_miles_X11_isPort : GoodIn wsX11_miles (va_wsS RX11 174 yX11_isPort wsX11_isPort) := goodIn_app (goodIn_of _ (by decide +kernel)) ggX11_miles_X11_isPort
set_option maxRecDepth 100000 in
theorem ggX11_miles_X11_refuse : GoodIn wsX11_miles wsX11_refuse := goodIn_sub (mmC (mmI il_X11_miles_1 11 rfl) (mmA (mmC (mmI il_X11_miles_1 12 rfl) mmN) il_X11_miles_2)) gw_X11_refuse
theorem gX11_miles_X11_refuse : GoodIn wsX11_miles (wsV RX11 153 RX11 yX11_refuse wsX11_refuse) := goodIn_app (goodIn_sub (mmC (mmI il_X11_miles_1 8 rfl) (mmC (mmI il_X11_miles_1 9 rfl) (mmC (mmI il_X11_miles_1 10 rfl) (mmC (mmI il_X11_miles_1 3 rfl) mmN)))) (by decide +kernel)) ggX11_miles_X11_refuse
theorem dX11_miles_0 : decode cX11_miles 0 = .ok (.iload_n 1, 1) := by decide +kernel
theorem dX11_miles_1 : decode cX11_miles 1 = .ok (.invokestatic 174, 3) := by decide +kernel
theorem dX11_miles_4 : decode cX11_miles 4 = .ok (.ifCond .eq 15, 3) := by decide +kernel
theorem dX11_miles_7 : decode cX11_miles 7 = .ok (.iload_n 2, 1) := by decide +kernel
theorem dX11_miles_8 : decode cX11_miles 8 = .ok (.invokestatic 174, 3) := by decide +kernel
theorem dX11_miles_11 : decode cX11_miles 11 = .ok (.ifCond .eq 8, 3) := by decide +kernel
theorem dX11_miles_14 : decode cX11_miles 14 = .ok (.iload_n 1, 1) := by decide +kernel
theorem dX11_miles_15 : decode cX11_miles 15 = .ok (.iload_n 2, 1) := by decide +kernel
theorem dX11_miles_16 : decode cX11_miles 16 = .ok (.if_icmp .ne 9, 3) := by decide +kernel
theorem dX11_miles_19 : decode cX11_miles 19 = .ok (.aload_n 0, 1) := by decide +kernel
theorem dX11_miles_20 : decode cX11_miles 20 = .ok (.iconst (-1), 1) := by decide +kernel
theorem dX11_miles_21 : decode cX11_miles 21 = .ok (.invokevirtual 153, 3) := by decide +kernel
theorem dX11_miles_24 : decode cX11_miles 24 = .ok (.ireturn, 1) := by decide +kernel
theorem dX11_miles_25 : decode cX11_miles 25 = .ok (.iload_n 3, 1) := by decide +kernel
theorem dX11_miles_26 : decode cX11_miles 26 = .ok (.ifCond .ge 10, 3) := by decide +kernel
theorem dX11_miles_29 : decode cX11_miles 29 = .ok (.aload_n 0, 1) := by decide +kernel
theorem dX11_miles_30 : decode cX11_miles 30 = .ok (.bipush (-4), 2) := by decide +kernel
theorem dX11_miles_32 : decode cX11_miles 32 = .ok (.invokevirtual 153, 3) := by decide +kernel
theorem dX11_miles_35 : decode cX11_miles 35 = .ok (.ireturn, 1) := by decide +kernel
theorem dX11_miles_36 : decode cX11_miles 36 = .ok (.iload_n 3, 1) := by decide +kernel
theorem dX11_miles_37 : decode cX11_miles 37 = .ok (.sipush 9999, 3) := by decide +kernel
theorem dX11_miles_40 : decode cX11_miles 40 = .ok (.if_icmp .le 10, 3) := by decide +kernel
theorem dX11_miles_43 : decode cX11_miles 43 = .ok (.aload_n 0, 1) := by decide +kernel
theorem dX11_miles_44 : decode cX11_miles 44 = .ok (.bipush (-6), 2) := by decide +kernel
theorem dX11_miles_46 : decode cX11_miles 46 = .ok (.invokevirtual 153, 3) := by decide +kernel
theorem dX11_miles_49 : decode cX11_miles 49 = .ok (.ireturn, 1) := by decide +kernel
theorem dX11_miles_50 : decode cX11_miles 50 = .ok (.aload_n 0, 1) := by decide +kernel
theorem dX11_miles_51 : decode cX11_miles 51 = .ok (.getfield 13, 3) := by decide +kernel
theorem dX11_miles_54 : decode cX11_miles 54 = .ok (.bipush 10, 2) := by decide +kernel
theorem dX11_miles_56 : decode cX11_miles 56 = .ok (.iload_n 1, 1) := by decide +kernel
theorem dX11_miles_57 : decode cX11_miles 57 = .ok (.imul, 1) := by decide +kernel
theorem dX11_miles_58 : decode cX11_miles 58 = .ok (.iload_n 2, 1) := by decide +kernel
theorem dX11_miles_59 : decode cX11_miles 59 = .ok (.iadd, 1) := by decide +kernel
theorem dX11_miles_60 : decode cX11_miles 60 = .ok (.iaload, 1) := by decide +kernel
theorem dX11_miles_61 : decode cX11_miles 61 = .ok (.istore 4, 2) := by decide +kernel
theorem dX11_miles_63 : decode cX11_miles 63 = .ok (.aload_n 0, 1) := by decide +kernel
theorem dX11_miles_64 : decode cX11_miles 64 = .ok (.getfield 13, 3) := by decide +kernel
theorem dX11_miles_67 : decode cX11_miles 67 = .ok (.bipush 10, 2) := by decide +kernel
theorem dX11_miles_69 : decode cX11_miles 69 = .ok (.iload_n 1, 1) := by decide +kernel
theorem dX11_miles_70 : decode cX11_miles 70 = .ok (.imul, 1) := by decide +kernel
theorem dX11_miles_71 : decode cX11_miles 71 = .ok (.iload_n 2, 1) := by decide +kernel
theorem dX11_miles_72 : decode cX11_miles 72 = .ok (.iadd, 1) := by decide +kernel
theorem dX11_miles_73 : decode cX11_miles 73 = .ok (.iload_n 3, 1) := by decide +kernel
theorem dX11_miles_74 : decode cX11_miles 74 = .ok (.iastore, 1) := by decide +kernel
theorem dX11_miles_75 : decode cX11_miles 75 = .ok (.aload_n 0, 1) := by decide +kernel
theorem dX11_miles_76 : decode cX11_miles 76 = .ok (.getfield 13, 3) := by decide +kernel
theorem dX11_miles_79 : decode cX11_miles 79 = .ok (.bipush 10, 2) := by decide +kernel
theorem dX11_miles_81 : decode cX11_miles 81 = .ok (.iload_n 2, 1) := by decide +kernel
theorem dX11_miles_82 : decode cX11_miles 82 = .ok (.imul, 1) := by decide +kernel
theorem dX11_miles_83 : decode cX11_miles 83 = .ok (.iload_n 1, 1) := by decide +kernel
theorem dX11_miles_84 : decode cX11_miles 84 = .ok (.iadd, 1) := by decide +kernel
theorem dX11_miles_85 : decode cX11_miles 85 = .ok (.iload_n 3, 1) := by decide +kernel
theorem dX11_miles_86 : decode cX11_miles 86 = .ok (.iastore, 1) := by decide +kernel
theorem dX11_miles_87 : decode cX11_miles 87 = .ok (.iload 4, 2) := by decide +kernel
theorem dX11_miles_89 : decode cX11_miles 89 = .ok (.ireturn, 1) := by decide +kernel
set_option maxRecDepth 100000 in
theorem ggX11_put_X11_refuse : GoodIn wsX11_put wsX11_refuse := goodIn_sub (mmC (mmI il_X11_put_1 6 rfl) (mmA (mmC (mmI il_X11_put_1 7 rfl) mmN) il_X11_put_2)) gw_X11_refuse
theorem gX11_put_X11_refuse : GoodIn wsX11_put (wsV RX11 153 RX11 yX11_refuse wsX11_refuse) := goodIn_app (goodIn_sub (mmC (mmI il_X11_put_1 2 rfl) (mmC (mmI il_X11_put_1 3 rfl) (mmC (mmI il_X11_put_1 4 rfl) (mmC (mmI il_X11_put_1 5 rfl) mmN)))) (by decide +kernel)) ggX11_put_X11_refuse
theorem dX11_put_0 : decode cX11_put 0 = .ok (.aload_n 0, 1) := by decide +kernel
theorem dX11_put_1 : decode cX11_put 1 = .ok (.getfield 357, 3) := by decide +kernel
theorem dX11_put_4 : decode cX11_put 4 = .ok (.bipush 12, 2) := by decide +kernel
theorem dX11_put_6 : decode cX11_put 6 = .ok (.if_icmp .ne 10, 3) := by decide +kernel
theorem dX11_put_9 : decode cX11_put 9 = .ok (.aload_n 0, 1) := by decide +kernel
theorem dX11_put_10 : decode cX11_put 10 = .ok (.bipush (-6), 2) := by decide +kernel
theorem dX11_put_12 : decode cX11_put 12 = .ok (.invokevirtual 153, 3) := by decide +kernel
theorem dX11_put_15 : decode cX11_put 15 = .ok (.ireturn, 1) := by decide +kernel
theorem dX11_put_16 : decode cX11_put 16 = .ok (.aload_n 0, 1) := by decide +kernel
theorem dX11_put_17 : decode cX11_put 17 = .ok (.getfield 149, 3) := by decide +kernel
theorem dX11_put_20 : decode cX11_put 20 = .ok (.aload_n 0, 1) := by decide +kernel
theorem dX11_put_21 : decode cX11_put 21 = .ok (.getfield 357, 3) := by decide +kernel
theorem dX11_put_24 : decode cX11_put 24 = .ok (.iload_n 1, 1) := by decide +kernel
theorem dX11_put_25 : decode cX11_put 25 = .ok (.iastore, 1) := by decide +kernel
theorem dX11_put_26 : decode cX11_put 26 = .ok (.aload_n 0, 1) := by decide +kernel
theorem dX11_put_27 : decode cX11_put 27 = .ok (.dup, 1) := by decide +kernel
theorem dX11_put_28 : decode cX11_put 28 = .ok (.getfield 357, 3) := by decide +kernel
theorem dX11_put_31 : decode cX11_put 31 = .ok (.iconst 1, 1) := by decide +kernel
theorem dX11_put_32 : decode cX11_put 32 = .ok (.iadd, 1) := by decide +kernel
theorem dX11_put_33 : decode cX11_put 33 = .ok (.putfield 357, 3) := by decide +kernel
theorem dX11_put_36 : decode cX11_put 36 = .ok (.aload_n 0, 1) := by decide +kernel
theorem dX11_put_37 : decode cX11_put 37 = .ok (.getfield 357, 3) := by decide +kernel
theorem dX11_put_40 : decode cX11_put 40 = .ok (.ireturn, 1) := by decide +kernel
theorem in_wsX11_put_X11 : ∀ w ∈ wsX110, w ∈ wsX11_put := fun w h => List.mem_cons_of_mem _ (List.mem_append_right _ h)
theorem in_wsX11_miles_X11 : ∀ w ∈ wsX110, w ∈ wsX11_miles := fun w h => List.mem_cons_of_mem _ (List.mem_append_right _ h)

theorem i_lt (a b : Int32) : a < b ↔ a.toInt < b.toInt := Int32.lt_iff_toInt_lt
theorem i_le (a b : Int32) : a ≤ b ↔ a.toInt ≤ b.toInt := Int32.le_iff_toInt_le
theorem isI_nz {v n : Int32} (h : ¬ isI v n = 0) : 0 ≤ v.toInt ∧ v.toInt < n.toInt := by
  unfold isI at h
  split at h
  · exact absurd rfl h
  · rename_i h1
    split at h
    · exact absurd rfl h
    · rename_i h2
      rw [i_lt] at h1
      rw [i_le] at h2
      exact ⟨by have : (0 : Int32).toInt = 0 := by decide
                omega, by omega⟩
theorem ten_of {v : Int32} (h : ¬ isI v 10 = 0) : ∃ j : Nat, j < 10 ∧ v = nI j := by
  have h1 := isI_nz h
  have h2 : (10 : Int32).toInt = 10 := by decide
  exact vp_in_of (n := 10) (vp_in_iff.mpr ⟨h1.1, by omega⟩) (by decide +kernel)
theorem nI10 : (10 : Int32) = nI 10 := by decide
theorem mi_in2 {a b : Int32} (h : ¬ isI a 10 = 0) (h2 : ¬ isI b 10 = 0) : vp_in ((10 * a) + b) 100 := by
  obtain ⟨i, hi, rfl⟩ := ten_of h
  obtain ⟨j, hj, rfl⟩ := ten_of h2
  rw [nI10, pk_mul, nI_add]
  exact vp_in_nI (by omega) (by decide +kernel)
theorem pu_in {x : Int32} {n cap : Nat} (e : x = nI n) (h : n ≤ cap) (h2 : ¬ x = nI cap) (hc : cap < 2 ^ 31) : vp_in x cap := by
  subst e
  have h3 : n ≠ cap := fun h => h2 (by rw [h])
  exact vp_in_nI (by omega) hc
def gmiles (v : Nat → Int32) (fa : Nat → Nat → Int32) (a b x r : Int32) (u : (Nat → Int32) × (Nat → Nat → Int32)) : Prop := if isI a 10 = 0 ∨ isI b 10 = 0 ∨ a = b then r = -1 ∧ sm0 v fa u else if 0 ≤ x then (if x ≤ 9999 then r = fa 1 (10 * a + b).toNatClampNeg ∧ u.1 = v ∧ u.2 = upF (upF fa 1 (10 * a + b).toNatClampNeg x) 1 (10 * b + a).toNatClampNeg x else r = -6 ∧ sm0 v fa u) else r = -4 ∧ sm0 v fa u
set_option maxHeartbeats 4000000 in
set_option maxRecDepth 100000 in
theorem c_X11_miles (l : Launch) (dC : Nat → ClassId) (dI : Nat → Nat → Nat) (sz : Nat) (g0 : Nat) (pq : Nat → Nat) (cp : Nat → ClassId) (v : Nat → Int32) (fa : Nat → Nat → Int32) (a1 a2 a3 : Int32) : Met l yX11_miles wsX11_miles ({ frames := 2, cells := 0, slots := 0, locals := 41 }) (va_Pc [.ref g0, .int a1, .int a2, .int a3] (pcW (dC, dI) (mT cp) (mW g0 pq cp v fa) sz)) (va_Qi (fun (r : Int32) (u : (Nat → Int32) × (Nat → Nat → Int32)) => gmiles v fa a1 a2 a3 r u) (fun u t => va_P (dC, dI) vwCl (mW g0 pq cp u.1 u.2) t.heap ∧ va_K (dC, dI) vwCl (mT cp) t ∧ va_D (va_A (mW g0 pq cp v fa) sz) (mW g0 pq cp u.1 u.2)) (va_A (mW g0 pq cp v fa) sz)) 0 0 (va_A (mW g0 pq cp v fa) sz) := by
  refine Met.ofW (cc := cX11_miles) (maxL := 5) (ret := (some .int)) (by decide +kernel) rfl ?_
  intro p e s m args below meth c s₁ B hml hv
  obtain ⟨rfl, hsz, hP, hK, hD0⟩ := hv
  have hx := B.exec
  have hb := B.bytes
  have hr := B.returns
  have hts := atoms_spec (ws := wsX11_miles) B.pre
  have hown : s.vm.findClass RX11 = some m.cls := findClass_of_methodNamed B.named
  have hlocks := B.notSynchronized
  subst hsz
  have hD := hD0.self (sz := s.heap.size)
  generalize hAe : va_A (mW g0 pq cp v fa) s.heap.size = A at hD ⊢
  have hA : ∀ q : Nat, s.heap.size ≤ q → A q := fun q h => by rw [← hAe]; exact Or.inr h
  have hS : va_S A s.heap s.heap [] := va_S.rf
  have hP : va_P (dC, dI) vwCl (mW g0 pq cp v fa) s.heap := hP
  have hl := lv_entry ([.ref g0, .int a1, .int a2, .int a3]) (n := 5) (Nat.le_of_ble_eq_true rfl)
  rw [lg_entry_eq]
  generalize (lg_sl ([.ref g0, .int a1, .int a2, .int a3]) ++ List.replicate (5 - (lg_sl ([.ref g0, .int a1, .int a2, .int a3])).length) Slot.unset).toArray = ls at hl ⊢
  have hl : lv_has ls 5 [(0, .ref g0), (1, .int a1), (2, .int a2), (3, .int a3)] := hl
  refine lv_iload_n hx hb dX11_miles_0 rfl (lv_at hl 1 rfl) ?_
  have hFc : ∀ q, va_A [] s.heap.size q → A q := pu_free hS hA
  have hPc := hP.sub (ws' := []) [] rfl
  have hDc := hD.sub (ws' := []) [] (by decide +kernel) rfl
  have hKc := hK.sub (tys' := []) [] rfl
  refine va_calli (va_runS (As := [.int a1]) (rest := []) ⟨hx, hb, hml, hown, hts⟩ (c_X11_isPort l dC dI s.heap.size a1) (va_cwS 1 hts gX11_miles_X11_isPort rfl rfl rfl (by decide +kernel) ⟨(Nat.le_of_ble_eq_true rfl), (Nat.le_of_ble_eq_true rfl)⟩) (pr_S hPc hKc hDc) rfl rfl hl.1 rfl (lv_room (Nat.le_of_ble_eq_true rfl)) dX11_miles_1 ⟨(Nat.le_of_ble_eq_true rfl), (Nat.le_of_ble_eq_true rfl)⟩) hS (fun q _ h => hFc q h) hFc (fun r_2 u t H locs ht hvm w_1 hB hz1 hk1 hS => ?_)
  have hP := pu_keep hP hk1
  clear hk1 hz1 hvm hB ht hFc hPc hDc hKc
  subst w_1
  refine lv_if_eq (tgt := 19) hx hb dX11_miles_4 (by decide +kernel) (fun c_3 => ?_) (fun c_3 => ?_)
  · refine lv_aload_n hx hb dX11_miles_19 rfl (lv_at hl 0 rfl) ?_
    refine lv_iconst (v := (-1)) hx hb dX11_miles_20 (by decide +kernel) ?_
    have hFc := va_free (wc := (mW g0 pq cp v fa)) hD hS hA (List.range 48) rfl
    refine va_calli (va_runV (As := [.int (-1)]) (rest := []) ⟨hx, hb, hml, hown, hts⟩ (c_X11_refuse l dC dI H.size g0 pq cp v fa (-1) (by unfold vp_in; decide)) (cwV 1 hts gX11_miles_X11_refuse rfl rfl rfl (by decide +kernel) ⟨(Nat.le_of_ble_eq_true rfl), (Nat.le_of_ble_eq_true rfl)⟩) (pr_V (r := (RX11, TX11, 63)) hP hK hD 0 11 rfl rfl) rfl rfl hl.1 rfl (lv_room (Nat.le_of_ble_eq_true rfl)) dX11_miles_21 ⟨(Nat.le_of_ble_eq_true rfl), (Nat.le_of_ble_eq_true rfl)⟩) hS (fun q _ h => hFc q h) hFc (fun r_5 u t H locs ht hvm w_4 hB hz1 hk1 hS => ?_)
    obtain ⟨v_6, fa_7⟩ := u
    obtain ⟨hP1, hK1, hD1⟩ := hB
    rw [ht] at hP1
    have hP : va_P (dC, dI) vwCl (mW g0 pq cp v_6 fa_7) H := hP1
    have hD : va_D A (mW g0 pq cp v_6 fa_7) := hD1.weaken (fun _ _ _ h => hFc _ h)
    clear hP1 hK1 hD1 hk1 hz1 hvm ht hFc
    obtain ⟨rfl, w_4⟩ := w_4
    exact W.iret (v := (-1)) hx hb hr (fun t ht hW => ⟨⟨(-1), (v_6, fa_7), rfl, (by show gmiles _ _ _ _ _ _ _; unfold gmiles; rw [if_pos (Or.inl c_3)]; exact ⟨rfl, w_4⟩), ⟨by rw [ht]; exact hP, va_K.moved hW.alike hK, hD⟩⟩, hS.F ht⟩) hS.2.2 dX11_miles_24
  · refine lv_iload_n hx hb dX11_miles_7 rfl (lv_at hl 2 rfl) ?_
    have hFc : ∀ q, va_A [] H.size q → A q := pu_free hS hA
    have hPc := hP.sub (ws' := []) [] rfl
    have hDc := hD.sub (ws' := []) [] (by decide +kernel) rfl
    have hKc := hK.sub (tys' := []) [] rfl
    refine va_calli (va_runS (As := [.int a2]) (rest := []) ⟨hx, hb, hml, hown, hts⟩ (c_X11_isPort l dC dI H.size a2) (va_cwS 1 hts gX11_miles_X11_isPort rfl rfl rfl (by decide +kernel) ⟨(Nat.le_of_ble_eq_true rfl), (Nat.le_of_ble_eq_true rfl)⟩) (pr_S hPc hKc hDc) rfl rfl hl.1 rfl (lv_room (Nat.le_of_ble_eq_true rfl)) dX11_miles_8 ⟨(Nat.le_of_ble_eq_true rfl), (Nat.le_of_ble_eq_true rfl)⟩) hS (fun q _ h => hFc q h) hFc (fun r_9 u t H locs ht hvm w_8 hB hz1 hk1 hS => ?_)
    have hP := pu_keep hP hk1
    clear hk1 hz1 hvm hB ht hFc hPc hDc hKc
    subst w_8
    refine lv_if_eq (tgt := 19) hx hb dX11_miles_11 (by decide +kernel) (fun c_10 => ?_) (fun c_10 => ?_)
    · refine lv_aload_n hx hb dX11_miles_19 rfl (lv_at hl 0 rfl) ?_
      refine lv_iconst (v := (-1)) hx hb dX11_miles_20 (by decide +kernel) ?_
      have hFc := va_free (wc := (mW g0 pq cp v fa)) hD hS hA (List.range 48) rfl
      refine va_calli (va_runV (As := [.int (-1)]) (rest := []) ⟨hx, hb, hml, hown, hts⟩ (c_X11_refuse l dC dI H.size g0 pq cp v fa (-1) (by unfold vp_in; decide)) (cwV 1 hts gX11_miles_X11_refuse rfl rfl rfl (by decide +kernel) ⟨(Nat.le_of_ble_eq_true rfl), (Nat.le_of_ble_eq_true rfl)⟩) (pr_V (r := (RX11, TX11, 63)) hP hK hD 0 11 rfl rfl) rfl rfl hl.1 rfl (lv_room (Nat.le_of_ble_eq_true rfl)) dX11_miles_21 ⟨(Nat.le_of_ble_eq_true rfl), (Nat.le_of_ble_eq_true rfl)⟩) hS (fun q _ h => hFc q h) hFc (fun r_12 u t H locs ht hvm w_11 hB hz1 hk1 hS => ?_)
      obtain ⟨v_13, fa_14⟩ := u
      obtain ⟨hP1, hK1, hD1⟩ := hB
      rw [ht] at hP1
      have hP : va_P (dC, dI) vwCl (mW g0 pq cp v_13 fa_14) H := hP1
      have hD : va_D A (mW g0 pq cp v_13 fa_14) := hD1.weaken (fun _ _ _ h => hFc _ h)
      clear hP1 hK1 hD1 hk1 hz1 hvm ht hFc
      obtain ⟨rfl, w_11⟩ := w_11
      exact W.iret (v := (-1)) hx hb hr (fun t ht hW => ⟨⟨(-1), (v_13, fa_14), rfl, (by show gmiles _ _ _ _ _ _ _; unfold gmiles; rw [if_pos (Or.inr (Or.inl c_10))]; exact ⟨rfl, w_11⟩), ⟨by rw [ht]; exact hP, va_K.moved hW.alike hK, hD⟩⟩, hS.F ht⟩) hS.2.2 dX11_miles_24
    · refine lv_iload_n hx hb dX11_miles_14 rfl (lv_at hl 1 rfl) ?_
      refine lv_iload_n hx hb dX11_miles_15 rfl (lv_at hl 2 rfl) ?_
      refine lv_icmp_ne (tgt := 25) hx hb dX11_miles_16 (by decide +kernel) (fun c_15 => ?_) (fun c_15 => ?_)
      · refine lv_iload_n hx hb dX11_miles_25 rfl (lv_at hl 3 rfl) ?_
        refine lv_if_ge (tgt := 36) hx hb dX11_miles_26 (by decide +kernel) (fun c_16 => ?_) (fun c_16 => ?_)
        · refine lv_iload_n hx hb dX11_miles_36 rfl (lv_at hl 3 rfl) ?_
          refine lv_sipush (v := 9999) hx hb dX11_miles_37 (by decide +kernel) ?_
          refine lv_icmp_le (tgt := 50) hx hb dX11_miles_40 (by decide +kernel) (fun c_17 => ?_) (fun c_17 => ?_)
          · refine lv_aload_n hx hb dX11_miles_50 rfl (lv_at hl 0 rfl) ?_
            refine va_get (D := (dC, dI)) (ci := 11) (v := .ref (pq 1)) (C := RX11) (T := TX11) (N := 63) hx hb hts in_wsX11_miles_X11 hown hK hP 0 rfl rfl 1 (by decide +kernel) (hts (.fieldLink RX11 13 "ShipOfficeModel" "mile" "[I") iw_X11_miles_1) (fun _ h9 => h9) rfl dX11_miles_51 ?_
            refine lv_bipush (v := 10) hx hb dX11_miles_54 (by decide +kernel) ?_
            refine lv_iload_n hx hb dX11_miles_56 rfl (lv_at hl 1 rfl) ?_
            refine lv_imul hx hb dX11_miles_57 ?_
            refine lv_iload_n hx hb dX11_miles_58 rfl (lv_at hl 2 rfl) ?_
            refine lv_iadd hx hb dX11_miles_59 ?_
            refine va_iald hx hb hK hP 2 1 rfl rfl (mi_in2 c_3 c_10) dX11_miles_60 ?_
            refine lv_istore (lv' := [(4, .int (fa 1 ((10 * a1) + a2 : Int32).toNatClampNeg)), (0, .ref g0), (1, .int a1), (2, .int a2), (3, .int a3)]) hx hb dX11_miles_61 hl (by decide +kernel) rfl (fun ls hl => ?_)
            refine lv_aload_n hx hb dX11_miles_63 rfl (lv_at hl 1 rfl) ?_
            refine va_get (D := (dC, dI)) (ci := 11) (v := .ref (pq 1)) (C := RX11) (T := TX11) (N := 63) hx hb hts in_wsX11_miles_X11 hown hK hP 0 rfl rfl 1 (by decide +kernel) (hts (.fieldLink RX11 13 "ShipOfficeModel" "mile" "[I") iw_X11_miles_1) (fun _ h9 => h9) rfl dX11_miles_64 ?_
            refine lv_bipush (v := 10) hx hb dX11_miles_67 (by decide +kernel) ?_
            refine lv_iload_n hx hb dX11_miles_69 rfl (lv_at hl 2 rfl) ?_
            refine lv_imul hx hb dX11_miles_70 ?_
            refine lv_iload_n hx hb dX11_miles_71 rfl (lv_at hl 3 rfl) ?_
            refine lv_iadd hx hb dX11_miles_72 ?_
            refine lv_iload_n hx hb dX11_miles_73 rfl (lv_at hl 4 rfl) ?_
            refine va_iast hx hb hK hP hD hS 2 1 rfl rfl (mi_in2 c_3 c_10) dX11_miles_74 (fun H locs hP hD hS => ?_)
            have hP : va_P (dC, dI) vwCl (mW g0 pq cp v (upF fa 1 ((10 * a1) + a2 : Int32).toNatClampNeg a3)) H := hP
            have hD : va_D A (mW g0 pq cp v (upF fa 1 ((10 * a1) + a2 : Int32).toNatClampNeg a3)) := hD
            refine lv_aload_n hx hb dX11_miles_75 rfl (lv_at hl 1 rfl) ?_
            refine va_get (D := (dC, dI)) (ci := 11) (v := .ref (pq 1)) (C := RX11) (T := TX11) (N := 63) hx hb hts in_wsX11_miles_X11 hown hK hP 0 rfl rfl 1 (by decide +kernel) (hts (.fieldLink RX11 13 "ShipOfficeModel" "mile" "[I") iw_X11_miles_1) (fun _ h9 => h9) rfl dX11_miles_76 ?_
            refine lv_bipush (v := 10) hx hb dX11_miles_79 (by decide +kernel) ?_
            refine lv_iload_n hx hb dX11_miles_81 rfl (lv_at hl 3 rfl) ?_
            refine lv_imul hx hb dX11_miles_82 ?_
            refine lv_iload_n hx hb dX11_miles_83 rfl (lv_at hl 2 rfl) ?_
            refine lv_iadd hx hb dX11_miles_84 ?_
            refine lv_iload_n hx hb dX11_miles_85 rfl (lv_at hl 4 rfl) ?_
            obtain ⟨fz_18, efz_18⟩ : ∃ z, z = (upF fa 1 ((10 * a1) + a2 : Int32).toNatClampNeg a3) := ⟨_, rfl⟩
            rw [← efz_18] at hP hD
            refine va_iast hx hb hK hP hD hS 2 1 rfl rfl (mi_in2 c_10 c_3) dX11_miles_86 (fun H locs hP hD hS => ?_)
            have hP : va_P (dC, dI) vwCl (mW g0 pq cp v (upF fz_18 1 ((10 * a2) + a1 : Int32).toNatClampNeg a3)) H := hP
            have hD : va_D A (mW g0 pq cp v (upF fz_18 1 ((10 * a2) + a1 : Int32).toNatClampNeg a3)) := hD
            refine lv_iload hx hb dX11_miles_87 (lv_at hl 0 rfl) ?_
            exact W.iret (v := (fa 1 ((10 * a1) + a2 : Int32).toNatClampNeg)) hx hb hr (fun t ht hW => ⟨⟨(fa 1 ((10 * a1) + a2 : Int32).toNatClampNeg), (v, (upF fz_18 1 ((10 * a2) + a1 : Int32).toNatClampNeg a3)), rfl, (by show gmiles _ _ _ _ _ _ _; unfold gmiles; rw [if_neg (fun h => h.elim c_3 (fun h => h.elim c_10 c_15)), if_pos c_16, if_pos c_17]; exact ⟨rfl, rfl, by rw [efz_18]⟩), ⟨by rw [ht]; exact hP, va_K.moved hW.alike hK, hD⟩⟩, hS.F ht⟩) hS.2.2 dX11_miles_89
          · refine lv_aload_n hx hb dX11_miles_43 rfl (lv_at hl 0 rfl) ?_
            refine lv_bipush (v := (-6)) hx hb dX11_miles_44 (by decide +kernel) ?_
            have hFc := va_free (wc := (mW g0 pq cp v fa)) hD hS hA (List.range 48) rfl
            refine va_calli (va_runV (As := [.int (-6)]) (rest := []) ⟨hx, hb, hml, hown, hts⟩ (c_X11_refuse l dC dI H.size g0 pq cp v fa (-6) (by unfold vp_in; decide)) (cwV 1 hts gX11_miles_X11_refuse rfl rfl rfl (by decide +kernel) ⟨(Nat.le_of_ble_eq_true rfl), (Nat.le_of_ble_eq_true rfl)⟩) (pr_V (r := (RX11, TX11, 63)) hP hK hD 0 11 rfl rfl) rfl rfl hl.1 rfl (lv_room (Nat.le_of_ble_eq_true rfl)) dX11_miles_46 ⟨(Nat.le_of_ble_eq_true rfl), (Nat.le_of_ble_eq_true rfl)⟩) hS (fun q _ h => hFc q h) hFc (fun r_20 u t H locs ht hvm w_19 hB hz1 hk1 hS => ?_)
            obtain ⟨v_21, fa_22⟩ := u
            obtain ⟨hP1, hK1, hD1⟩ := hB
            rw [ht] at hP1
            have hP : va_P (dC, dI) vwCl (mW g0 pq cp v_21 fa_22) H := hP1
            have hD : va_D A (mW g0 pq cp v_21 fa_22) := hD1.weaken (fun _ _ _ h => hFc _ h)
            clear hP1 hK1 hD1 hk1 hz1 hvm ht hFc
            obtain ⟨rfl, w_19⟩ := w_19
            exact W.iret (v := (-6)) hx hb hr (fun t ht hW => ⟨⟨(-6), (v_21, fa_22), rfl, (by show gmiles _ _ _ _ _ _ _; unfold gmiles; rw [if_neg (fun h => h.elim c_3 (fun h => h.elim c_10 c_15)), if_pos c_16, if_neg c_17]; exact ⟨rfl, w_19⟩), ⟨by rw [ht]; exact hP, va_K.moved hW.alike hK, hD⟩⟩, hS.F ht⟩) hS.2.2 dX11_miles_49
        · refine lv_aload_n hx hb dX11_miles_29 rfl (lv_at hl 0 rfl) ?_
          refine lv_bipush (v := (-4)) hx hb dX11_miles_30 (by decide +kernel) ?_
          have hFc := va_free (wc := (mW g0 pq cp v fa)) hD hS hA (List.range 48) rfl
          refine va_calli (va_runV (As := [.int (-4)]) (rest := []) ⟨hx, hb, hml, hown, hts⟩ (c_X11_refuse l dC dI H.size g0 pq cp v fa (-4) (by unfold vp_in; decide)) (cwV 1 hts gX11_miles_X11_refuse rfl rfl rfl (by decide +kernel) ⟨(Nat.le_of_ble_eq_true rfl), (Nat.le_of_ble_eq_true rfl)⟩) (pr_V (r := (RX11, TX11, 63)) hP hK hD 0 11 rfl rfl) rfl rfl hl.1 rfl (lv_room (Nat.le_of_ble_eq_true rfl)) dX11_miles_32 ⟨(Nat.le_of_ble_eq_true rfl), (Nat.le_of_ble_eq_true rfl)⟩) hS (fun q _ h => hFc q h) hFc (fun r_24 u t H locs ht hvm w_23 hB hz1 hk1 hS => ?_)
          obtain ⟨v_25, fa_26⟩ := u
          obtain ⟨hP1, hK1, hD1⟩ := hB
          rw [ht] at hP1
          have hP : va_P (dC, dI) vwCl (mW g0 pq cp v_25 fa_26) H := hP1
          have hD : va_D A (mW g0 pq cp v_25 fa_26) := hD1.weaken (fun _ _ _ h => hFc _ h)
          clear hP1 hK1 hD1 hk1 hz1 hvm ht hFc
          obtain ⟨rfl, w_23⟩ := w_23
          exact W.iret (v := (-4)) hx hb hr (fun t ht hW => ⟨⟨(-4), (v_25, fa_26), rfl, (by show gmiles _ _ _ _ _ _ _; unfold gmiles; rw [if_neg (fun h => h.elim c_3 (fun h => h.elim c_10 c_15)), if_neg c_16]; exact ⟨rfl, w_23⟩), ⟨by rw [ht]; exact hP, va_K.moved hW.alike hK, hD⟩⟩, hS.F ht⟩) hS.2.2 dX11_miles_35
      · refine lv_aload_n hx hb dX11_miles_19 rfl (lv_at hl 0 rfl) ?_
        refine lv_iconst (v := (-1)) hx hb dX11_miles_20 (by decide +kernel) ?_
        have hFc := va_free (wc := (mW g0 pq cp v fa)) hD hS hA (List.range 48) rfl
        refine va_calli (va_runV (As := [.int (-1)]) (rest := []) ⟨hx, hb, hml, hown, hts⟩ (c_X11_refuse l dC dI H.size g0 pq cp v fa (-1) (by unfold vp_in; decide)) (cwV 1 hts gX11_miles_X11_refuse rfl rfl rfl (by decide +kernel) ⟨(Nat.le_of_ble_eq_true rfl), (Nat.le_of_ble_eq_true rfl)⟩) (pr_V (r := (RX11, TX11, 63)) hP hK hD 0 11 rfl rfl) rfl rfl hl.1 rfl (lv_room (Nat.le_of_ble_eq_true rfl)) dX11_miles_21 ⟨(Nat.le_of_ble_eq_true rfl), (Nat.le_of_ble_eq_true rfl)⟩) hS (fun q _ h => hFc q h) hFc (fun r_28 u t H locs ht hvm w_27 hB hz1 hk1 hS => ?_)
        obtain ⟨v_29, fa_30⟩ := u
        obtain ⟨hP1, hK1, hD1⟩ := hB
        rw [ht] at hP1
        have hP : va_P (dC, dI) vwCl (mW g0 pq cp v_29 fa_30) H := hP1
        have hD : va_D A (mW g0 pq cp v_29 fa_30) := hD1.weaken (fun _ _ _ h => hFc _ h)
        clear hP1 hK1 hD1 hk1 hz1 hvm ht hFc
        obtain ⟨rfl, w_27⟩ := w_27
        exact W.iret (v := (-1)) hx hb hr (fun t ht hW => ⟨⟨(-1), (v_29, fa_30), rfl, (by show gmiles _ _ _ _ _ _ _; unfold gmiles; rw [if_pos (Or.inr (Or.inr c_15))]; exact ⟨rfl, w_27⟩), ⟨by rw [ht]; exact hP, va_K.moved hW.alike hK, hD⟩⟩, hS.F ht⟩) hS.2.2 dX11_miles_24
