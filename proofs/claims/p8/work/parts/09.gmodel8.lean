abbrev cX11_man : ByteArray := prog_13_method_11_code
def yX11_man : MethodName := ⟨RX11, "man", "(III)I"⟩
abbrev cX11_isFine : ByteArray := prog_13_method_58_code
def yX11_isFine : MethodName := ⟨RX11, "isFine", "(II)Z"⟩
abbrev cX11_asksAny : ByteArray := prog_13_method_75_code
def yX11_asksAny : MethodName := ⟨RX11, "asksAny", "(I)Z"⟩
theorem gw_X11_isAgreement : wsX11_isAgreement.all goodWord = true := by decide +kernel
def wsX11_man : List Cond := .code yX11_man cX11_man 4 (some .int) :: ([.constant RX11 178 (99999), .fieldLink RX11 171 "ShipOfficeModel" "now" "I", .fieldLink RX11 157 "ShipOfficeModel" "men" "I", .fieldLink RX11 16 "ShipOfficeModel" "name" "[I", .fieldLink RX11 19 "ShipOfficeModel" "marks" "[I", .fieldLink RX11 22 "ShipOfficeModel" "born" "[I", .methodLink RX11 153 yX11_refuse, .instanceMethod yX11_refuse, .selects RX11 yX11_refuse yX11_refuse, .initialized RX11, .code yX11_refuse cX11_refuse 2 (some .int), .fieldLink RX11 7 "ShipOfficeModel" "refusals" "[I"] ++ wsX110)
theorem il_X11_man_1 : ∀ w ∈ ([.constant RX11 178 (99999), .fieldLink RX11 171 "ShipOfficeModel" "now" "I", .fieldLink RX11 157 "ShipOfficeModel" "men" "I", .fieldLink RX11 16 "ShipOfficeModel" "name" "[I", .fieldLink RX11 19 "ShipOfficeModel" "marks" "[I", .fieldLink RX11 22 "ShipOfficeModel" "born" "[I", .methodLink RX11 153 yX11_refuse, .instanceMethod yX11_refuse, .selects RX11 yX11_refuse yX11_refuse, .initialized RX11, .code yX11_refuse cX11_refuse 2 (some .int), .fieldLink RX11 7 "ShipOfficeModel" "refusals" "[I"] : List Cond), w ∈ wsX11_man := fun w h => (List.mem_cons_of_mem _ (List.mem_append_left _ h))
theorem il_X11_man_2 : ∀ w ∈ wsX110, w ∈ wsX11_man := fun w h => (List.mem_cons_of_mem _ (List.mem_append_right _ h))
theorem iw_X11_man_1 : Cond.fieldLink RX11 171 "ShipOfficeModel" "now" "I" ∈ wsX11_man := (mmI il_X11_man_1 1 rfl)
theorem iw_X11_man_2 : Cond.fieldLink RX11 157 "ShipOfficeModel" "men" "I" ∈ wsX11_man := (mmI il_X11_man_1 2 rfl)
theorem iw_X11_man_3 : Cond.fieldLink RX11 16 "ShipOfficeModel" "name" "[I" ∈ wsX11_man := (mmI il_X11_man_1 3 rfl)
theorem iw_X11_man_4 : Cond.fieldLink RX11 19 "ShipOfficeModel" "marks" "[I" ∈ wsX11_man := (mmI il_X11_man_1 4 rfl)
theorem iw_X11_man_5 : Cond.fieldLink RX11 22 "ShipOfficeModel" "born" "[I" ∈ wsX11_man := (mmI il_X11_man_1 5 rfl)
def wsX11_isFine : List Cond := .code yX11_isFine cX11_isFine 3 (some .boolean) :: ([.fieldLink RX11 100 "ShipOfficeModel" "fines" "[I", .methodLink RX11 199 yX11_isAgreement, .instanceMethod yX11_isAgreement, .selects RX11 yX11_isAgreement yX11_isAgreement, .initialized RX11, .code yX11_isAgreement cX11_isAgreement 2 (some .boolean), .fieldLink RX11 168 "ShipOfficeModel" "agreements" "I", .methodLink RX11 161 yX11_isIn, .static yX11_isIn, .code yX11_isIn cX11_isIn 2 (some .boolean)] ++ wsX110)
theorem il_X11_isFine_1 : ∀ w ∈ ([.fieldLink RX11 100 "ShipOfficeModel" "fines" "[I", .methodLink RX11 199 yX11_isAgreement, .instanceMethod yX11_isAgreement, .selects RX11 yX11_isAgreement yX11_isAgreement, .initialized RX11, .code yX11_isAgreement cX11_isAgreement 2 (some .boolean), .fieldLink RX11 168 "ShipOfficeModel" "agreements" "I", .methodLink RX11 161 yX11_isIn, .static yX11_isIn, .code yX11_isIn cX11_isIn 2 (some .boolean)] : List Cond), w ∈ wsX11_isFine := fun w h => (List.mem_cons_of_mem _ (List.mem_append_left _ h))
theorem il_X11_isFine_2 : ∀ w ∈ wsX110, w ∈ wsX11_isFine := fun w h => (List.mem_cons_of_mem _ (List.mem_append_right _ h))
theorem iw_X11_isFine_1 : Cond.fieldLink RX11 100 "ShipOfficeModel" "fines" "[I" ∈ wsX11_isFine := (mmI il_X11_isFine_1 0 rfl)
def wsX11_asksAny : List Cond := .code yX11_asksAny cX11_asksAny 2 (some .boolean) :: ([.fieldLink RX11 25 "ShipOfficeModel" "asks" "[I"] ++ wsX110)
theorem il_X11_asksAny_1 : ∀ w ∈ ([.fieldLink RX11 25 "ShipOfficeModel" "asks" "[I"] : List Cond), w ∈ wsX11_asksAny := fun w h => (List.mem_cons_of_mem _ (List.mem_append_left _ h))
theorem iw_X11_asksAny_1 : Cond.fieldLink RX11 25 "ShipOfficeModel" "asks" "[I" ∈ wsX11_asksAny := (mmI il_X11_asksAny_1 0 rfl)
set_option maxRecDepth 100000 in
theorem ggX11_man_X11_refuse : GoodIn wsX11_man wsX11_refuse := goodIn_sub (mmC (mmI il_X11_man_1 10 rfl) (mmA (mmC (mmI il_X11_man_1 11 rfl) mmN) il_X11_man_2)) gw_X11_refuse
theorem gX11_man_X11_refuse : GoodIn wsX11_man (wsV RX11 153 RX11 yX11_refuse wsX11_refuse) := goodIn_app (goodIn_sub (mmC (mmI il_X11_man_1 6 rfl) (mmC (mmI il_X11_man_1 7 rfl) (mmC (mmI il_X11_man_1 8 rfl) (mmC (mmI il_X11_man_1 9 rfl) mmN)))) (by decide +kernel)) ggX11_man_X11_refuse
theorem dX11_man_0 : decode cX11_man 0 = .ok (.iload_n 1, 1) := by decide +kernel
theorem dX11_man_1 : decode cX11_man 1 = .ok (.ifCond .lt 14, 3) := by decide +kernel
theorem dX11_man_4 : decode cX11_man 4 = .ok (.iload_n 2, 1) := by decide +kernel
theorem dX11_man_5 : decode cX11_man 5 = .ok (.ifCond .lt 10, 3) := by decide +kernel
theorem dX11_man_8 : decode cX11_man 8 = .ok (.iload_n 3, 1) := by decide +kernel
theorem dX11_man_9 : decode cX11_man 9 = .ok (.sipush (-30000), 3) := by decide +kernel
theorem dX11_man_12 : decode cX11_man 12 = .ok (.if_icmp .ge 10, 3) := by decide +kernel
theorem dX11_man_15 : decode cX11_man 15 = .ok (.aload_n 0, 1) := by decide +kernel
theorem dX11_man_16 : decode cX11_man 16 = .ok (.bipush (-4), 2) := by decide +kernel
theorem dX11_man_18 : decode cX11_man 18 = .ok (.invokevirtual 153, 3) := by decide +kernel
theorem dX11_man_21 : decode cX11_man 21 = .ok (.ireturn, 1) := by decide +kernel
theorem dX11_man_22 : decode cX11_man 22 = .ok (.iload_n 1, 1) := by decide +kernel
theorem dX11_man_23 : decode cX11_man 23 = .ok (.sipush 9999, 3) := by decide +kernel
theorem dX11_man_26 : decode cX11_man 26 = .ok (.if_icmp .gt 26, 3) := by decide +kernel
theorem dX11_man_29 : decode cX11_man 29 = .ok (.iload_n 2, 1) := by decide +kernel
theorem dX11_man_30 : decode cX11_man 30 = .ok (.ldc 178, 2) := by decide +kernel
theorem dX11_man_32 : decode cX11_man 32 = .ok (.if_icmp .gt 20, 3) := by decide +kernel
theorem dX11_man_35 : decode cX11_man 35 = .ok (.iload_n 3, 1) := by decide +kernel
theorem dX11_man_36 : decode cX11_man 36 = .ok (.aload_n 0, 1) := by decide +kernel
theorem dX11_man_37 : decode cX11_man 37 = .ok (.getfield 171, 3) := by decide +kernel
theorem dX11_man_40 : decode cX11_man 40 = .ok (.if_icmp .gt 12, 3) := by decide +kernel
theorem dX11_man_43 : decode cX11_man 43 = .ok (.aload_n 0, 1) := by decide +kernel
theorem dX11_man_44 : decode cX11_man 44 = .ok (.getfield 157, 3) := by decide +kernel
theorem dX11_man_47 : decode cX11_man 47 = .ok (.bipush 40, 2) := by decide +kernel
theorem dX11_man_49 : decode cX11_man 49 = .ok (.if_icmp .ne 10, 3) := by decide +kernel
theorem dX11_man_52 : decode cX11_man 52 = .ok (.aload_n 0, 1) := by decide +kernel
theorem dX11_man_53 : decode cX11_man 53 = .ok (.bipush (-6), 2) := by decide +kernel
theorem dX11_man_55 : decode cX11_man 55 = .ok (.invokevirtual 153, 3) := by decide +kernel
theorem dX11_man_58 : decode cX11_man 58 = .ok (.ireturn, 1) := by decide +kernel
theorem dX11_man_59 : decode cX11_man 59 = .ok (.aload_n 0, 1) := by decide +kernel
theorem dX11_man_60 : decode cX11_man 60 = .ok (.getfield 16, 3) := by decide +kernel
theorem dX11_man_63 : decode cX11_man 63 = .ok (.aload_n 0, 1) := by decide +kernel
theorem dX11_man_64 : decode cX11_man 64 = .ok (.getfield 157, 3) := by decide +kernel
theorem dX11_man_67 : decode cX11_man 67 = .ok (.iload_n 1, 1) := by decide +kernel
theorem dX11_man_68 : decode cX11_man 68 = .ok (.iastore, 1) := by decide +kernel
theorem dX11_man_69 : decode cX11_man 69 = .ok (.aload_n 0, 1) := by decide +kernel
theorem dX11_man_70 : decode cX11_man 70 = .ok (.getfield 19, 3) := by decide +kernel
theorem dX11_man_73 : decode cX11_man 73 = .ok (.aload_n 0, 1) := by decide +kernel
theorem dX11_man_74 : decode cX11_man 74 = .ok (.getfield 157, 3) := by decide +kernel
theorem dX11_man_77 : decode cX11_man 77 = .ok (.iload_n 2, 1) := by decide +kernel
theorem dX11_man_78 : decode cX11_man 78 = .ok (.iastore, 1) := by decide +kernel
theorem dX11_man_79 : decode cX11_man 79 = .ok (.aload_n 0, 1) := by decide +kernel
theorem dX11_man_80 : decode cX11_man 80 = .ok (.getfield 22, 3) := by decide +kernel
theorem dX11_man_83 : decode cX11_man 83 = .ok (.aload_n 0, 1) := by decide +kernel
theorem dX11_man_84 : decode cX11_man 84 = .ok (.getfield 157, 3) := by decide +kernel
theorem dX11_man_87 : decode cX11_man 87 = .ok (.iload_n 3, 1) := by decide +kernel
theorem dX11_man_88 : decode cX11_man 88 = .ok (.iastore, 1) := by decide +kernel
theorem dX11_man_89 : decode cX11_man 89 = .ok (.aload_n 0, 1) := by decide +kernel
theorem dX11_man_90 : decode cX11_man 90 = .ok (.dup, 1) := by decide +kernel
theorem dX11_man_91 : decode cX11_man 91 = .ok (.getfield 157, 3) := by decide +kernel
theorem dX11_man_94 : decode cX11_man 94 = .ok (.iconst 1, 1) := by decide +kernel
theorem dX11_man_95 : decode cX11_man 95 = .ok (.iadd, 1) := by decide +kernel
theorem dX11_man_96 : decode cX11_man 96 = .ok (.putfield 157, 3) := by decide +kernel
theorem dX11_man_99 : decode cX11_man 99 = .ok (.aload_n 0, 1) := by decide +kernel
theorem dX11_man_100 : decode cX11_man 100 = .ok (.getfield 157, 3) := by decide +kernel
theorem dX11_man_103 : decode cX11_man 103 = .ok (.iconst 1, 1) := by decide +kernel
theorem dX11_man_104 : decode cX11_man 104 = .ok (.isub, 1) := by decide +kernel
theorem dX11_man_105 : decode cX11_man 105 = .ok (.ireturn, 1) := by decide +kernel
set_option maxRecDepth 100000 in
theorem ggX11_isFine_X11_isAgreement : GoodIn wsX11_isFine wsX11_isAgreement := goodIn_sub (mmC (mmI il_X11_isFine_1 5 rfl) (mmA (mmC (mmI il_X11_isFine_1 6 rfl) (mmC (mmI il_X11_isFine_1 7 rfl) (mmC (mmI il_X11_isFine_1 8 rfl) (mmC (mmI il_X11_isFine_1 4 rfl) (mmC (mmI il_X11_isFine_1 9 rfl) mmN))))) il_X11_isFine_2)) gw_X11_isAgreement
theorem gX11_isFine_X11_isAgreement : GoodIn wsX11_isFine (wsV RX11 199 RX11 yX11_isAgreement wsX11_isAgreement) := goodIn_app (goodIn_sub (mmC (mmI il_X11_isFine_1 1 rfl) (mmC (mmI il_X11_isFine_1 2 rfl) (mmC (mmI il_X11_isFine_1 3 rfl) (mmC (mmI il_X11_isFine_1 4 rfl) mmN)))) (by decide +kernel)) ggX11_isFine_X11_isAgreement
set_option maxRecDepth 100000 in
theorem ggX11_isFine_X11_isIn : GoodIn wsX11_isFine wsX11_isIn := goodIn_sub (mmC (mmI il_X11_isFine_1 9 rfl) mmN) gw_X11_isIn
set_option maxRecDepth 20000 in
theorem gX11_isFine_X11_isIn : GoodIn wsX11_isFine (va_wsS RX11 161 yX11_isIn wsX11_isIn) := goodIn_app (goodIn_of _ (by decide +kernel)) ggX11_isFine_X11_isIn
theorem dX11_isFine_0 : decode cX11_isFine 0 = .ok (.aload_n 0, 1) := by decide +kernel
theorem dX11_isFine_1 : decode cX11_isFine 1 = .ok (.iload_n 1, 1) := by decide +kernel
theorem dX11_isFine_2 : decode cX11_isFine 2 = .ok (.invokevirtual 199, 3) := by decide +kernel
theorem dX11_isFine_5 : decode cX11_isFine 5 = .ok (.ifCond .eq 20, 3) := by decide +kernel
theorem dX11_isFine_8 : decode cX11_isFine 8 = .ok (.iload_n 2, 1) := by decide +kernel
theorem dX11_isFine_9 : decode cX11_isFine 9 = .ok (.aload_n 0, 1) := by decide +kernel
theorem dX11_isFine_10 : decode cX11_isFine 10 = .ok (.getfield 100, 3) := by decide +kernel
theorem dX11_isFine_13 : decode cX11_isFine 13 = .ok (.iload_n 1, 1) := by decide +kernel
theorem dX11_isFine_14 : decode cX11_isFine 14 = .ok (.iaload, 1) := by decide +kernel
theorem dX11_isFine_15 : decode cX11_isFine 15 = .ok (.invokestatic 161, 3) := by decide +kernel
theorem dX11_isFine_18 : decode cX11_isFine 18 = .ok (.ifCond .eq 7, 3) := by decide +kernel
theorem dX11_isFine_21 : decode cX11_isFine 21 = .ok (.iconst 1, 1) := by decide +kernel
theorem dX11_isFine_22 : decode cX11_isFine 22 = .ok (.goto 4, 3) := by decide +kernel
theorem dX11_isFine_25 : decode cX11_isFine 25 = .ok (.iconst 0, 1) := by decide +kernel
theorem dX11_isFine_26 : decode cX11_isFine 26 = .ok (.ireturn, 1) := by decide +kernel
theorem dX11_asksAny_0 : decode cX11_asksAny 0 = .ok (.aload_n 0, 1) := by decide +kernel
theorem dX11_asksAny_1 : decode cX11_asksAny 1 = .ok (.getfield 25, 3) := by decide +kernel
theorem dX11_asksAny_4 : decode cX11_asksAny 4 = .ok (.iconst 4, 1) := by decide +kernel
theorem dX11_asksAny_5 : decode cX11_asksAny 5 = .ok (.iload_n 1, 1) := by decide +kernel
theorem dX11_asksAny_6 : decode cX11_asksAny 6 = .ok (.imul, 1) := by decide +kernel
theorem dX11_asksAny_7 : decode cX11_asksAny 7 = .ok (.iaload, 1) := by decide +kernel
theorem dX11_asksAny_8 : decode cX11_asksAny 8 = .ok (.aload_n 0, 1) := by decide +kernel
theorem dX11_asksAny_9 : decode cX11_asksAny 9 = .ok (.getfield 25, 3) := by decide +kernel
theorem dX11_asksAny_12 : decode cX11_asksAny 12 = .ok (.iconst 4, 1) := by decide +kernel
theorem dX11_asksAny_13 : decode cX11_asksAny 13 = .ok (.iload_n 1, 1) := by decide +kernel
theorem dX11_asksAny_14 : decode cX11_asksAny 14 = .ok (.imul, 1) := by decide +kernel
theorem dX11_asksAny_15 : decode cX11_asksAny 15 = .ok (.iconst 1, 1) := by decide +kernel
theorem dX11_asksAny_16 : decode cX11_asksAny 16 = .ok (.iadd, 1) := by decide +kernel
theorem dX11_asksAny_17 : decode cX11_asksAny 17 = .ok (.iaload, 1) := by decide +kernel
theorem dX11_asksAny_18 : decode cX11_asksAny 18 = .ok (.iadd, 1) := by decide +kernel
theorem dX11_asksAny_19 : decode cX11_asksAny 19 = .ok (.aload_n 0, 1) := by decide +kernel
theorem dX11_asksAny_20 : decode cX11_asksAny 20 = .ok (.getfield 25, 3) := by decide +kernel
theorem dX11_asksAny_23 : decode cX11_asksAny 23 = .ok (.iconst 4, 1) := by decide +kernel
theorem dX11_asksAny_24 : decode cX11_asksAny 24 = .ok (.iload_n 1, 1) := by decide +kernel
theorem dX11_asksAny_25 : decode cX11_asksAny 25 = .ok (.imul, 1) := by decide +kernel
theorem dX11_asksAny_26 : decode cX11_asksAny 26 = .ok (.iconst 2, 1) := by decide +kernel
theorem dX11_asksAny_27 : decode cX11_asksAny 27 = .ok (.iadd, 1) := by decide +kernel
theorem dX11_asksAny_28 : decode cX11_asksAny 28 = .ok (.iaload, 1) := by decide +kernel
theorem dX11_asksAny_29 : decode cX11_asksAny 29 = .ok (.iadd, 1) := by decide +kernel
theorem dX11_asksAny_30 : decode cX11_asksAny 30 = .ok (.aload_n 0, 1) := by decide +kernel
theorem dX11_asksAny_31 : decode cX11_asksAny 31 = .ok (.getfield 25, 3) := by decide +kernel
theorem dX11_asksAny_34 : decode cX11_asksAny 34 = .ok (.iconst 4, 1) := by decide +kernel
theorem dX11_asksAny_35 : decode cX11_asksAny 35 = .ok (.iload_n 1, 1) := by decide +kernel
theorem dX11_asksAny_36 : decode cX11_asksAny 36 = .ok (.imul, 1) := by decide +kernel
theorem dX11_asksAny_37 : decode cX11_asksAny 37 = .ok (.iconst 3, 1) := by decide +kernel
theorem dX11_asksAny_38 : decode cX11_asksAny 38 = .ok (.iadd, 1) := by decide +kernel
theorem dX11_asksAny_39 : decode cX11_asksAny 39 = .ok (.iaload, 1) := by decide +kernel
theorem dX11_asksAny_40 : decode cX11_asksAny 40 = .ok (.iadd, 1) := by decide +kernel
theorem dX11_asksAny_41 : decode cX11_asksAny 41 = .ok (.ifCond .le 7, 3) := by decide +kernel
theorem dX11_asksAny_44 : decode cX11_asksAny 44 = .ok (.iconst 1, 1) := by decide +kernel
theorem dX11_asksAny_45 : decode cX11_asksAny 45 = .ok (.goto 4, 3) := by decide +kernel
theorem dX11_asksAny_48 : decode cX11_asksAny 48 = .ok (.iconst 0, 1) := by decide +kernel
theorem dX11_asksAny_49 : decode cX11_asksAny 49 = .ok (.ireturn, 1) := by decide +kernel
theorem in_wsX11_isFine_X11 : ∀ w ∈ wsX110, w ∈ wsX11_isFine := fun w h => List.mem_cons_of_mem _ (List.mem_append_right _ h)
theorem in_wsX11_asksAny_X11 : ∀ w ∈ wsX110, w ∈ wsX11_asksAny := fun w h => List.mem_cons_of_mem _ (List.mem_append_right _ h)
theorem in_wsX11_man_X11 : ∀ w ∈ wsX110, w ∈ wsX11_man := fun w h => List.mem_cons_of_mem _ (List.mem_append_right _ h)

theorem isI_01 (x n : Int32) : isI x n = 0 ∨ isI x n = 1 := by
  unfold isI
  split
  · exact Or.inl rfl
  · split
    · exact Or.inl rfl
    · exact Or.inr rfl
theorem nI4 : (4 : Int32) = nI 4 := by decide
theorem as_0 {x : Int32} (h : vp_in x 40) : vp_in (4 * x) 160 := by
  obtain ⟨j, hj, rfl⟩ := vp_in_of h (by decide +kernel)
  rw [nI4, pk_mul]
  exact vp_in_nI (by omega) (by decide +kernel)
theorem as_k {x y : Int32} (k : Nat) (e : y = nI k) (hk : k < 4) (h : vp_in x 40) : vp_in ((4 * x) + y) 160 := by
  obtain ⟨j, hj, rfl⟩ := vp_in_of h (by decide +kernel)
  rw [nI4, pk_mul, e, nI_add]
  exact vp_in_nI (by omega) (by decide +kernel)
def gman (v : Nat → Int32) (fa : Nat → Nat → Int32) (a b d r : Int32) (u : (Nat → Int32) × (Nat → Nat → Int32)) : Prop := if a < 0 ∨ b < 0 ∨ ¬ -30000 ≤ d then r = -4 ∧ sm0 v fa u else if 9999 < a ∨ 99999 < b ∨ v 38 < d ∨ v 39 = 40 then r = -6 ∧ sm0 v fa u else r = v 39 + 1 - 1 ∧ u.1 = upd v 39 (v 39 + 1) ∧ u.2 = upF (upF (upF fa 2 (v 39).toNatClampNeg a) 3 (v 39).toNatClampNeg b) 4 (v 39).toNatClampNeg d
set_option maxHeartbeats 4000000 in
set_option maxRecDepth 100000 in
theorem c_X11_asksAny (l : Launch) (dC : Nat → ClassId) (dI : Nat → Nat → Nat) (sz : Nat) (g0 : Nat) (pq : Nat → Nat) (cp : Nat → ClassId) (v : Nat → Int32) (fa : Nat → Nat → Int32) (x1 : Int32) (hx1 : vp_in x1 40) : Met l yX11_asksAny wsX11_asksAny ({ frames := 0, cells := 0, slots := 0, locals := 0 }) (va_Pc [.ref g0, .int x1] (pcW (dC, dI) (mT cp) (mW g0 pq cp v fa) sz)) (va_Qi (fun (r : Int32) (u : Unit) => r = 0 ∨ r = 1) (fun _ _ => True) (va_A [] sz)) 0 0 (va_A [] sz) := by
  refine Met.ofW (cc := cX11_asksAny) (maxL := 2) (ret := (some .boolean)) (by decide +kernel) rfl ?_
  intro p e s m args below meth c s₁ B hml hv
  obtain ⟨rfl, hsz, hP, hK, hD0⟩ := hv
  have hx := B.exec
  have hb := B.bytes
  have hr := B.returns
  have hts := atoms_spec (ws := wsX11_asksAny) B.pre
  have hown : s.vm.findClass RX11 = some m.cls := findClass_of_methodNamed B.named
  have hlocks := B.notSynchronized
  subst hsz
  have hD := hD0
  generalize hAe : va_A [] s.heap.size = A at ⊢
  have hA : ∀ q : Nat, s.heap.size ≤ q → A q := fun q h => by rw [← hAe]; exact Or.inr h
  have hS : va_S A s.heap s.heap [] := va_S.rf
  have hP : va_P (dC, dI) vwCl (mW g0 pq cp v fa) s.heap := hP
  have hl := lv_entry ([.ref g0, .int x1]) (n := 2) (Nat.le_of_ble_eq_true rfl)
  rw [lg_entry_eq]
  generalize (lg_sl ([.ref g0, .int x1]) ++ List.replicate (2 - (lg_sl ([.ref g0, .int x1])).length) Slot.unset).toArray = ls at hl ⊢
  have hl : lv_has ls 2 [(0, .ref g0), (1, .int x1)] := hl
  refine lv_aload_n hx hb dX11_asksAny_0 rfl (lv_at hl 0 rfl) ?_
  refine va_get (D := (dC, dI)) (ci := 11) (v := .ref (pq 5)) (C := RX11) (T := TX11) (N := 63) hx hb hts in_wsX11_asksAny_X11 hown hK hP 0 rfl rfl 5 (by decide +kernel) (hts (.fieldLink RX11 25 "ShipOfficeModel" "asks" "[I") iw_X11_asksAny_1) (fun _ h9 => h9) rfl dX11_asksAny_1 ?_
  refine lv_iconst (v := 4) hx hb dX11_asksAny_4 (by decide +kernel) ?_
  refine lv_iload_n hx hb dX11_asksAny_5 rfl (lv_at hl 1 rfl) ?_
  refine lv_imul hx hb dX11_asksAny_6 ?_
  refine va_iald hx hb hK hP 6 5 rfl rfl (as_0 hx1) dX11_asksAny_7 ?_
  refine lv_aload_n hx hb dX11_asksAny_8 rfl (lv_at hl 0 rfl) ?_
  refine va_get (D := (dC, dI)) (ci := 11) (v := .ref (pq 5)) (C := RX11) (T := TX11) (N := 63) hx hb hts in_wsX11_asksAny_X11 hown hK hP 0 rfl rfl 5 (by decide +kernel) (hts (.fieldLink RX11 25 "ShipOfficeModel" "asks" "[I") iw_X11_asksAny_1) (fun _ h9 => h9) rfl dX11_asksAny_9 ?_
  refine lv_iconst (v := 4) hx hb dX11_asksAny_12 (by decide +kernel) ?_
  refine lv_iload_n hx hb dX11_asksAny_13 rfl (lv_at hl 1 rfl) ?_
  refine lv_imul hx hb dX11_asksAny_14 ?_
  refine lv_iconst (v := 1) hx hb dX11_asksAny_15 (by decide +kernel) ?_
  refine lv_iadd hx hb dX11_asksAny_16 ?_
  refine va_iald hx hb hK hP 6 5 rfl rfl (as_k 1 (by decide +kernel) (by decide +kernel) hx1) dX11_asksAny_17 ?_
  refine lv_iadd hx hb dX11_asksAny_18 ?_
  refine lv_aload_n hx hb dX11_asksAny_19 rfl (lv_at hl 0 rfl) ?_
  refine va_get (D := (dC, dI)) (ci := 11) (v := .ref (pq 5)) (C := RX11) (T := TX11) (N := 63) hx hb hts in_wsX11_asksAny_X11 hown hK hP 0 rfl rfl 5 (by decide +kernel) (hts (.fieldLink RX11 25 "ShipOfficeModel" "asks" "[I") iw_X11_asksAny_1) (fun _ h9 => h9) rfl dX11_asksAny_20 ?_
  refine lv_iconst (v := 4) hx hb dX11_asksAny_23 (by decide +kernel) ?_
  refine lv_iload_n hx hb dX11_asksAny_24 rfl (lv_at hl 1 rfl) ?_
  refine lv_imul hx hb dX11_asksAny_25 ?_
  refine lv_iconst (v := 2) hx hb dX11_asksAny_26 (by decide +kernel) ?_
  refine lv_iadd hx hb dX11_asksAny_27 ?_
  refine va_iald hx hb hK hP 6 5 rfl rfl (as_k 2 (by decide +kernel) (by decide +kernel) hx1) dX11_asksAny_28 ?_
  refine lv_iadd hx hb dX11_asksAny_29 ?_
  refine lv_aload_n hx hb dX11_asksAny_30 rfl (lv_at hl 0 rfl) ?_
  refine va_get (D := (dC, dI)) (ci := 11) (v := .ref (pq 5)) (C := RX11) (T := TX11) (N := 63) hx hb hts in_wsX11_asksAny_X11 hown hK hP 0 rfl rfl 5 (by decide +kernel) (hts (.fieldLink RX11 25 "ShipOfficeModel" "asks" "[I") iw_X11_asksAny_1) (fun _ h9 => h9) rfl dX11_asksAny_31 ?_
  refine lv_iconst (v := 4) hx hb dX11_asksAny_34 (by decide +kernel) ?_
  refine lv_iload_n hx hb dX11_asksAny_35 rfl (lv_at hl 1 rfl) ?_
  refine lv_imul hx hb dX11_asksAny_36 ?_
  refine lv_iconst (v := 3) hx hb dX11_asksAny_37 (by decide +kernel) ?_
  refine lv_iadd hx hb dX11_asksAny_38 ?_
  refine va_iald hx hb hK hP 6 5 rfl rfl (as_k 3 (by decide +kernel) (by decide +kernel) hx1) dX11_asksAny_39 ?_
  refine lv_iadd hx hb dX11_asksAny_40 ?_
  refine lv_if_le (tgt := 48) hx hb dX11_asksAny_41 (by decide +kernel) (fun c_1 => ?_) (fun c_1 => ?_)
  · refine lv_iconst (v := 0) hx hb dX11_asksAny_48 (by decide +kernel) ?_
    exact W.zret (v := 0) hx hb hr rfl (fun t ht hW => ⟨⟨0, (), rfl, (Or.inl rfl), trivial⟩, hS.F ht⟩) hS.2.2 dX11_asksAny_49
  · refine lv_iconst (v := 1) hx hb dX11_asksAny_44 (by decide +kernel) ?_
    refine lv_goto (tgt := 49) hx hb dX11_asksAny_45 (by decide +kernel) ?_
    exact W.zret (v := 1) hx hb hr rfl (fun t ht hW => ⟨⟨1, (), rfl, (Or.inr rfl), trivial⟩, hS.F ht⟩) hS.2.2 dX11_asksAny_49
set_option maxHeartbeats 4000000 in
set_option maxRecDepth 100000 in
theorem c_X11_man (l : Launch) (dC : Nat → ClassId) (dI : Nat → Nat → Nat) (sz : Nat) (g0 : Nat) (pq : Nat → Nat) (cp : Nat → ClassId) (v : Nat → Int32) (fa : Nat → Nat → Int32) (nm : Nat) (hnm : nm ≤ 40) (em : v 39 = nI nm) (a1 a2 a3 : Int32) : Met l yX11_man wsX11_man ({ frames := 1, cells := 0, slots := 0, locals := 21 }) (va_Pc [.ref g0, .int a1, .int a2, .int a3] (pcW (dC, dI) (mT cp) (mW g0 pq cp v fa) sz)) (va_Qi (fun (r : Int32) (u : (Nat → Int32) × (Nat → Nat → Int32)) => gman v fa a1 a2 a3 r u) (fun u t => va_P (dC, dI) vwCl (mW g0 pq cp u.1 u.2) t.heap ∧ va_K (dC, dI) vwCl (mT cp) t ∧ va_D (va_A (mW g0 pq cp v fa) sz) (mW g0 pq cp u.1 u.2)) (va_A (mW g0 pq cp v fa) sz)) 0 0 (va_A (mW g0 pq cp v fa) sz) := by
  refine Met.ofW (cc := cX11_man) (maxL := 4) (ret := (some .int)) (by decide +kernel) rfl ?_
  intro p e s m args below meth c s₁ B hml hv
  obtain ⟨rfl, hsz, hP, hK, hD0⟩ := hv
  have hx := B.exec
  have hb := B.bytes
  have hr := B.returns
  have hts := atoms_spec (ws := wsX11_man) B.pre
  have hown : s.vm.findClass RX11 = some m.cls := findClass_of_methodNamed B.named
  have hlocks := B.notSynchronized
  subst hsz
  have hD := hD0.self (sz := s.heap.size)
  generalize hAe : va_A (mW g0 pq cp v fa) s.heap.size = A at hD ⊢
  have hA : ∀ q : Nat, s.heap.size ≤ q → A q := fun q h => by rw [← hAe]; exact Or.inr h
  have hS : va_S A s.heap s.heap [] := va_S.rf
  have hP : va_P (dC, dI) vwCl (mW g0 pq cp v fa) s.heap := hP
  have hl := lv_entry ([.ref g0, .int a1, .int a2, .int a3]) (n := 4) (Nat.le_of_ble_eq_true rfl)
  rw [lg_entry_eq]
  generalize (lg_sl ([.ref g0, .int a1, .int a2, .int a3]) ++ List.replicate (4 - (lg_sl ([.ref g0, .int a1, .int a2, .int a3])).length) Slot.unset).toArray = ls at hl ⊢
  have hl : lv_has ls 4 [(0, .ref g0), (1, .int a1), (2, .int a2), (3, .int a3)] := hl
  refine lv_iload_n hx hb dX11_man_0 rfl (lv_at hl 1 rfl) ?_
  refine lv_if_lt (tgt := 15) hx hb dX11_man_1 (by decide +kernel) (fun c_1 => ?_) (fun c_1 => ?_)
  · refine lv_aload_n hx hb dX11_man_15 rfl (lv_at hl 0 rfl) ?_
    refine lv_bipush (v := (-4)) hx hb dX11_man_16 (by decide +kernel) ?_
    have hFc := va_free (wc := (mW g0 pq cp v fa)) hD hS hA (List.range 48) rfl
    refine va_calli (va_runV (As := [.int (-4)]) (rest := []) ⟨hx, hb, hml, hown, hts⟩ (c_X11_refuse l dC dI s.heap.size g0 pq cp v fa (-4) (by unfold vp_in; decide)) (cwV 1 hts gX11_man_X11_refuse rfl rfl rfl (by decide +kernel) ⟨(Nat.le_of_ble_eq_true rfl), (Nat.le_of_ble_eq_true rfl)⟩) (pr_V (r := (RX11, TX11, 63)) hP hK hD 0 11 rfl rfl) rfl rfl hl.1 rfl (lv_room (Nat.le_of_ble_eq_true rfl)) dX11_man_18 ⟨(Nat.le_of_ble_eq_true rfl), (Nat.le_of_ble_eq_true rfl)⟩) hS (fun q _ h => hFc q h) hFc (fun r_3 u t H locs ht hvm w_2 hB hz1 hk1 hS => ?_)
    obtain ⟨v_4, fa_5⟩ := u
    obtain ⟨hP1, hK1, hD1⟩ := hB
    rw [ht] at hP1
    have hP : va_P (dC, dI) vwCl (mW g0 pq cp v_4 fa_5) H := hP1
    have hD : va_D A (mW g0 pq cp v_4 fa_5) := hD1.weaken (fun _ _ _ h => hFc _ h)
    clear hP1 hK1 hD1 hk1 hz1 hvm ht hFc
    obtain ⟨rfl, w_2⟩ := w_2
    exact W.iret (v := (-4)) hx hb hr (fun t ht hW => ⟨⟨(-4), (v_4, fa_5), rfl, (by show gman _ _ _ _ _ _ _; unfold gman; rw [if_pos (Or.inl c_1)]; exact ⟨rfl, w_2⟩), ⟨by rw [ht]; exact hP, va_K.moved hW.alike hK, hD⟩⟩, hS.F ht⟩) hS.2.2 dX11_man_21
  · refine lv_iload_n hx hb dX11_man_4 rfl (lv_at hl 2 rfl) ?_
    refine lv_if_lt (tgt := 15) hx hb dX11_man_5 (by decide +kernel) (fun c_6 => ?_) (fun c_6 => ?_)
    · refine lv_aload_n hx hb dX11_man_15 rfl (lv_at hl 0 rfl) ?_
      refine lv_bipush (v := (-4)) hx hb dX11_man_16 (by decide +kernel) ?_
      have hFc := va_free (wc := (mW g0 pq cp v fa)) hD hS hA (List.range 48) rfl
      refine va_calli (va_runV (As := [.int (-4)]) (rest := []) ⟨hx, hb, hml, hown, hts⟩ (c_X11_refuse l dC dI s.heap.size g0 pq cp v fa (-4) (by unfold vp_in; decide)) (cwV 1 hts gX11_man_X11_refuse rfl rfl rfl (by decide +kernel) ⟨(Nat.le_of_ble_eq_true rfl), (Nat.le_of_ble_eq_true rfl)⟩) (pr_V (r := (RX11, TX11, 63)) hP hK hD 0 11 rfl rfl) rfl rfl hl.1 rfl (lv_room (Nat.le_of_ble_eq_true rfl)) dX11_man_18 ⟨(Nat.le_of_ble_eq_true rfl), (Nat.le_of_ble_eq_true rfl)⟩) hS (fun q _ h => hFc q h) hFc (fun r_8 u t H locs ht hvm w_7 hB hz1 hk1 hS => ?_)
      obtain ⟨v_9, fa_10⟩ := u
      obtain ⟨hP1, hK1, hD1⟩ := hB
      rw [ht] at hP1
      have hP : va_P (dC, dI) vwCl (mW g0 pq cp v_9 fa_10) H := hP1
      have hD : va_D A (mW g0 pq cp v_9 fa_10) := hD1.weaken (fun _ _ _ h => hFc _ h)
      clear hP1 hK1 hD1 hk1 hz1 hvm ht hFc
      obtain ⟨rfl, w_7⟩ := w_7
      exact W.iret (v := (-4)) hx hb hr (fun t ht hW => ⟨⟨(-4), (v_9, fa_10), rfl, (by show gman _ _ _ _ _ _ _; unfold gman; rw [if_pos (Or.inr (Or.inl c_6))]; exact ⟨rfl, w_7⟩), ⟨by rw [ht]; exact hP, va_K.moved hW.alike hK, hD⟩⟩, hS.F ht⟩) hS.2.2 dX11_man_21
    · refine lv_iload_n hx hb dX11_man_8 rfl (lv_at hl 3 rfl) ?_
      refine lv_sipush (v := (-30000)) hx hb dX11_man_9 (by decide +kernel) ?_
      refine lv_icmp_ge (tgt := 22) hx hb dX11_man_12 (by decide +kernel) (fun c_11 => ?_) (fun c_11 => ?_)
      · refine lv_iload_n hx hb dX11_man_22 rfl (lv_at hl 1 rfl) ?_
        refine lv_sipush (v := 9999) hx hb dX11_man_23 (by decide +kernel) ?_
        refine lv_icmp_gt (tgt := 52) hx hb dX11_man_26 (by decide +kernel) (fun c_12 => ?_) (fun c_12 => ?_)
        · refine lv_aload_n hx hb dX11_man_52 rfl (lv_at hl 0 rfl) ?_
          refine lv_bipush (v := (-6)) hx hb dX11_man_53 (by decide +kernel) ?_
          have hFc := va_free (wc := (mW g0 pq cp v fa)) hD hS hA (List.range 48) rfl
          refine va_calli (va_runV (As := [.int (-6)]) (rest := []) ⟨hx, hb, hml, hown, hts⟩ (c_X11_refuse l dC dI s.heap.size g0 pq cp v fa (-6) (by unfold vp_in; decide)) (cwV 1 hts gX11_man_X11_refuse rfl rfl rfl (by decide +kernel) ⟨(Nat.le_of_ble_eq_true rfl), (Nat.le_of_ble_eq_true rfl)⟩) (pr_V (r := (RX11, TX11, 63)) hP hK hD 0 11 rfl rfl) rfl rfl hl.1 rfl (lv_room (Nat.le_of_ble_eq_true rfl)) dX11_man_55 ⟨(Nat.le_of_ble_eq_true rfl), (Nat.le_of_ble_eq_true rfl)⟩) hS (fun q _ h => hFc q h) hFc (fun r_14 u t H locs ht hvm w_13 hB hz1 hk1 hS => ?_)
          obtain ⟨v_15, fa_16⟩ := u
          obtain ⟨hP1, hK1, hD1⟩ := hB
          rw [ht] at hP1
          have hP : va_P (dC, dI) vwCl (mW g0 pq cp v_15 fa_16) H := hP1
          have hD : va_D A (mW g0 pq cp v_15 fa_16) := hD1.weaken (fun _ _ _ h => hFc _ h)
          clear hP1 hK1 hD1 hk1 hz1 hvm ht hFc
          obtain ⟨rfl, w_13⟩ := w_13
          exact W.iret (v := (-6)) hx hb hr (fun t ht hW => ⟨⟨(-6), (v_15, fa_16), rfl, (by show gman _ _ _ _ _ _ _; unfold gman; rw [if_neg (fun h => h.elim c_1 (fun h => h.elim c_6 (fun h => h c_11))), if_pos (Or.inl c_12)]; exact ⟨rfl, w_13⟩), ⟨by rw [ht]; exact hP, va_K.moved hW.alike hK, hD⟩⟩, hS.F ht⟩) hS.2.2 dX11_man_58
        · refine lv_iload_n hx hb dX11_man_29 rfl (lv_at hl 2 rfl) ?_
          refine lv_ldc (v := 99999) hx hb hown (hts (.constant RX11 178 (99999)) (by decide +kernel)) dX11_man_30 ?_
          refine lv_icmp_gt (tgt := 52) hx hb dX11_man_32 (by decide +kernel) (fun c_17 => ?_) (fun c_17 => ?_)
          · refine lv_aload_n hx hb dX11_man_52 rfl (lv_at hl 0 rfl) ?_
            refine lv_bipush (v := (-6)) hx hb dX11_man_53 (by decide +kernel) ?_
            have hFc := va_free (wc := (mW g0 pq cp v fa)) hD hS hA (List.range 48) rfl
            refine va_calli (va_runV (As := [.int (-6)]) (rest := []) ⟨hx, hb, hml, hown, hts⟩ (c_X11_refuse l dC dI s.heap.size g0 pq cp v fa (-6) (by unfold vp_in; decide)) (cwV 1 hts gX11_man_X11_refuse rfl rfl rfl (by decide +kernel) ⟨(Nat.le_of_ble_eq_true rfl), (Nat.le_of_ble_eq_true rfl)⟩) (pr_V (r := (RX11, TX11, 63)) hP hK hD 0 11 rfl rfl) rfl rfl hl.1 rfl (lv_room (Nat.le_of_ble_eq_true rfl)) dX11_man_55 ⟨(Nat.le_of_ble_eq_true rfl), (Nat.le_of_ble_eq_true rfl)⟩) hS (fun q _ h => hFc q h) hFc (fun r_19 u t H locs ht hvm w_18 hB hz1 hk1 hS => ?_)
            obtain ⟨v_20, fa_21⟩ := u
            obtain ⟨hP1, hK1, hD1⟩ := hB
            rw [ht] at hP1
            have hP : va_P (dC, dI) vwCl (mW g0 pq cp v_20 fa_21) H := hP1
            have hD : va_D A (mW g0 pq cp v_20 fa_21) := hD1.weaken (fun _ _ _ h => hFc _ h)
            clear hP1 hK1 hD1 hk1 hz1 hvm ht hFc
            obtain ⟨rfl, w_18⟩ := w_18
            exact W.iret (v := (-6)) hx hb hr (fun t ht hW => ⟨⟨(-6), (v_20, fa_21), rfl, (by show gman _ _ _ _ _ _ _; unfold gman; rw [if_neg (fun h => h.elim c_1 (fun h => h.elim c_6 (fun h => h c_11))), if_pos (Or.inr (Or.inl c_17))]; exact ⟨rfl, w_18⟩), ⟨by rw [ht]; exact hP, va_K.moved hW.alike hK, hD⟩⟩, hS.F ht⟩) hS.2.2 dX11_man_58
          · refine lv_iload_n hx hb dX11_man_35 rfl (lv_at hl 3 rfl) ?_
            refine lv_aload_n hx hb dX11_man_36 rfl (lv_at hl 0 rfl) ?_
            refine va_get (D := (dC, dI)) (ci := 11) (v := .int (v 38)) (C := RX11) (T := TX11) (N := 63) hx hb hts in_wsX11_man_X11 hown hK hP 0 rfl rfl 38 (by decide +kernel) (hts (.fieldLink RX11 171 "ShipOfficeModel" "now" "I") iw_X11_man_1) (fun _ h9 => h9) rfl dX11_man_37 ?_
            refine lv_icmp_gt (tgt := 52) hx hb dX11_man_40 (by decide +kernel) (fun c_22 => ?_) (fun c_22 => ?_)
            · refine lv_aload_n hx hb dX11_man_52 rfl (lv_at hl 0 rfl) ?_
              refine lv_bipush (v := (-6)) hx hb dX11_man_53 (by decide +kernel) ?_
              have hFc := va_free (wc := (mW g0 pq cp v fa)) hD hS hA (List.range 48) rfl
              refine va_calli (va_runV (As := [.int (-6)]) (rest := []) ⟨hx, hb, hml, hown, hts⟩ (c_X11_refuse l dC dI s.heap.size g0 pq cp v fa (-6) (by unfold vp_in; decide)) (cwV 1 hts gX11_man_X11_refuse rfl rfl rfl (by decide +kernel) ⟨(Nat.le_of_ble_eq_true rfl), (Nat.le_of_ble_eq_true rfl)⟩) (pr_V (r := (RX11, TX11, 63)) hP hK hD 0 11 rfl rfl) rfl rfl hl.1 rfl (lv_room (Nat.le_of_ble_eq_true rfl)) dX11_man_55 ⟨(Nat.le_of_ble_eq_true rfl), (Nat.le_of_ble_eq_true rfl)⟩) hS (fun q _ h => hFc q h) hFc (fun r_24 u t H locs ht hvm w_23 hB hz1 hk1 hS => ?_)
              obtain ⟨v_25, fa_26⟩ := u
              obtain ⟨hP1, hK1, hD1⟩ := hB
              rw [ht] at hP1
              have hP : va_P (dC, dI) vwCl (mW g0 pq cp v_25 fa_26) H := hP1
              have hD : va_D A (mW g0 pq cp v_25 fa_26) := hD1.weaken (fun _ _ _ h => hFc _ h)
              clear hP1 hK1 hD1 hk1 hz1 hvm ht hFc
              obtain ⟨rfl, w_23⟩ := w_23
              exact W.iret (v := (-6)) hx hb hr (fun t ht hW => ⟨⟨(-6), (v_25, fa_26), rfl, (by show gman _ _ _ _ _ _ _; unfold gman; rw [if_neg (fun h => h.elim c_1 (fun h => h.elim c_6 (fun h => h c_11))), if_pos (Or.inr (Or.inr (Or.inl c_22)))]; exact ⟨rfl, w_23⟩), ⟨by rw [ht]; exact hP, va_K.moved hW.alike hK, hD⟩⟩, hS.F ht⟩) hS.2.2 dX11_man_58
            · refine lv_aload_n hx hb dX11_man_43 rfl (lv_at hl 0 rfl) ?_
              refine va_get (D := (dC, dI)) (ci := 11) (v := .int (v 39)) (C := RX11) (T := TX11) (N := 63) hx hb hts in_wsX11_man_X11 hown hK hP 0 rfl rfl 39 (by decide +kernel) (hts (.fieldLink RX11 157 "ShipOfficeModel" "men" "I") iw_X11_man_2) (fun _ h9 => h9) rfl dX11_man_44 ?_
              refine lv_bipush (v := 40) hx hb dX11_man_47 (by decide +kernel) ?_
              refine lv_icmp_ne (tgt := 59) hx hb dX11_man_49 (by decide +kernel) (fun c_27 => ?_) (fun c_27 => ?_)
              · refine lv_aload_n hx hb dX11_man_59 rfl (lv_at hl 0 rfl) ?_
                refine va_get (D := (dC, dI)) (ci := 11) (v := .ref (pq 2)) (C := RX11) (T := TX11) (N := 63) hx hb hts in_wsX11_man_X11 hown hK hP 0 rfl rfl 2 (by decide +kernel) (hts (.fieldLink RX11 16 "ShipOfficeModel" "name" "[I") iw_X11_man_3) (fun _ h9 => h9) rfl dX11_man_60 ?_
                refine lv_aload_n hx hb dX11_man_63 rfl (lv_at hl 0 rfl) ?_
                refine va_get (D := (dC, dI)) (ci := 11) (v := .int (v 39)) (C := RX11) (T := TX11) (N := 63) hx hb hts in_wsX11_man_X11 hown hK hP 0 rfl rfl 39 (by decide +kernel) (hts (.fieldLink RX11 157 "ShipOfficeModel" "men" "I") iw_X11_man_2) (fun _ h9 => h9) rfl dX11_man_64 ?_
                refine lv_iload_n hx hb dX11_man_67 rfl (lv_at hl 1 rfl) ?_
                refine va_iast hx hb hK hP hD hS 3 2 rfl rfl (pu_in em hnm c_27 (by decide +kernel)) dX11_man_68 (fun H locs hP hD hS => ?_)
                have hP : va_P (dC, dI) vwCl (mW g0 pq cp v (upF fa 2 (v 39 : Int32).toNatClampNeg a1)) H := hP
                have hD : va_D A (mW g0 pq cp v (upF fa 2 (v 39 : Int32).toNatClampNeg a1)) := hD
                refine lv_aload_n hx hb dX11_man_69 rfl (lv_at hl 0 rfl) ?_
                refine va_get (D := (dC, dI)) (ci := 11) (v := .ref (pq 3)) (C := RX11) (T := TX11) (N := 63) hx hb hts in_wsX11_man_X11 hown hK hP 0 rfl rfl 3 (by decide +kernel) (hts (.fieldLink RX11 19 "ShipOfficeModel" "marks" "[I") iw_X11_man_4) (fun _ h9 => h9) rfl dX11_man_70 ?_
                refine lv_aload_n hx hb dX11_man_73 rfl (lv_at hl 0 rfl) ?_
                refine va_get (D := (dC, dI)) (ci := 11) (v := .int (v 39)) (C := RX11) (T := TX11) (N := 63) hx hb hts in_wsX11_man_X11 hown hK hP 0 rfl rfl 39 (by decide +kernel) (hts (.fieldLink RX11 157 "ShipOfficeModel" "men" "I") iw_X11_man_2) (fun _ h9 => h9) rfl dX11_man_74 ?_
                refine lv_iload_n hx hb dX11_man_77 rfl (lv_at hl 2 rfl) ?_
                obtain ⟨fz_28, efz_28⟩ : ∃ z, z = (upF fa 2 (v 39 : Int32).toNatClampNeg a1) := ⟨_, rfl⟩
                rw [← efz_28] at hP hD
                refine va_iast hx hb hK hP hD hS 4 3 rfl rfl (pu_in em hnm c_27 (by decide +kernel)) dX11_man_78 (fun H locs hP hD hS => ?_)
                have hP : va_P (dC, dI) vwCl (mW g0 pq cp v (upF fz_28 3 (v 39 : Int32).toNatClampNeg a2)) H := hP
                have hD : va_D A (mW g0 pq cp v (upF fz_28 3 (v 39 : Int32).toNatClampNeg a2)) := hD
                refine lv_aload_n hx hb dX11_man_79 rfl (lv_at hl 0 rfl) ?_
                refine va_get (D := (dC, dI)) (ci := 11) (v := .ref (pq 4)) (C := RX11) (T := TX11) (N := 63) hx hb hts in_wsX11_man_X11 hown hK hP 0 rfl rfl 4 (by decide +kernel) (hts (.fieldLink RX11 22 "ShipOfficeModel" "born" "[I") iw_X11_man_5) (fun _ h9 => h9) rfl dX11_man_80 ?_
                refine lv_aload_n hx hb dX11_man_83 rfl (lv_at hl 0 rfl) ?_
                refine va_get (D := (dC, dI)) (ci := 11) (v := .int (v 39)) (C := RX11) (T := TX11) (N := 63) hx hb hts in_wsX11_man_X11 hown hK hP 0 rfl rfl 39 (by decide +kernel) (hts (.fieldLink RX11 157 "ShipOfficeModel" "men" "I") iw_X11_man_2) (fun _ h9 => h9) rfl dX11_man_84 ?_
                refine lv_iload_n hx hb dX11_man_87 rfl (lv_at hl 3 rfl) ?_
                obtain ⟨fz_29, efz_29⟩ : ∃ z, z = (upF fz_28 3 (v 39 : Int32).toNatClampNeg a2) := ⟨_, rfl⟩
                rw [← efz_29] at hP hD
                refine va_iast hx hb hK hP hD hS 5 4 rfl rfl (pu_in em hnm c_27 (by decide +kernel)) dX11_man_88 (fun H locs hP hD hS => ?_)
                have hP : va_P (dC, dI) vwCl (mW g0 pq cp v (upF fz_29 4 (v 39 : Int32).toNatClampNeg a3)) H := hP
                have hD : va_D A (mW g0 pq cp v (upF fz_29 4 (v 39 : Int32).toNatClampNeg a3)) := hD
                refine lv_aload_n hx hb dX11_man_89 rfl (lv_at hl 0 rfl) ?_
                refine lv_dup hx hb dX11_man_90 rfl ?_
                refine va_get (D := (dC, dI)) (ci := 11) (v := .int (v 39)) (C := RX11) (T := TX11) (N := 63) hx hb hts in_wsX11_man_X11 hown hK hP 0 rfl rfl 39 (by decide +kernel) (hts (.fieldLink RX11 157 "ShipOfficeModel" "men" "I") iw_X11_man_2) (fun _ h9 => h9) rfl dX11_man_91 ?_
                refine lv_iconst (v := 1) hx hb dX11_man_94 (by decide +kernel) ?_
                refine lv_iadd hx hb dX11_man_95 ?_
                refine va_put (D := (dC, dI)) (ci := 11) (v := .int ((v 39) + 1)) (ty := .int) (C := RX11) (T := TX11) (N := 63) hx hb hts in_wsX11_man_X11 tyX11 tyX11_ok nmX11 hown hK hP hD hS 0 rfl rfl 39 (by decide +kernel) (hts (.fieldLink RX11 157 "ShipOfficeModel" "men" "I") iw_X11_man_2) (fun _ h9 => h9) rfl (by decide +kernel) rfl rfl (Nat.le_of_ble_eq_true rfl) dX11_man_96 (fun H locs hP hD hS => ?_)
                have hP : va_P (dC, dI) vwCl (mW g0 pq cp (upd v 39 ((v 39) + 1)) (upF fz_29 4 (v 39 : Int32).toNatClampNeg a3)) H := hP
                have hD : va_D A (mW g0 pq cp (upd v 39 ((v 39) + 1)) (upF fz_29 4 (v 39 : Int32).toNatClampNeg a3)) := hD
                refine lv_aload_n hx hb dX11_man_99 rfl (lv_at hl 0 rfl) ?_
                refine va_get (D := (dC, dI)) (ci := 11) (v := .int ((upd v 39 ((v 39) + 1)) 39)) (C := RX11) (T := TX11) (N := 63) hx hb hts in_wsX11_man_X11 hown hK hP 0 rfl rfl 39 (by decide +kernel) (hts (.fieldLink RX11 157 "ShipOfficeModel" "men" "I") iw_X11_man_2) (fun _ h9 => h9) rfl dX11_man_100 ?_
                refine lv_iconst (v := 1) hx hb dX11_man_103 (by decide +kernel) ?_
                refine lv_isub hx hb dX11_man_104 ?_
                exact W.iret (v := (((upd v 39 ((v 39) + 1)) 39) - 1)) hx hb hr (fun t ht hW => ⟨⟨(((upd v 39 ((v 39) + 1)) 39) - 1), ((upd v 39 ((v 39) + 1)), (upF fz_29 4 (v 39 : Int32).toNatClampNeg a3)), rfl, (by show gman _ _ _ _ _ _ _; unfold gman; rw [if_neg (fun h => h.elim c_1 (fun h => h.elim c_6 (fun h => h c_11))), if_neg (fun h => h.elim c_12 (fun h => h.elim c_17 (fun h => h.elim c_22 c_27)))]; exact ⟨rfl, rfl, by rw [efz_29, efz_28]⟩), ⟨by rw [ht]; exact hP, va_K.moved hW.alike hK, hD⟩⟩, hS.F ht⟩) hS.2.2 dX11_man_105
              · refine lv_aload_n hx hb dX11_man_52 rfl (lv_at hl 0 rfl) ?_
                refine lv_bipush (v := (-6)) hx hb dX11_man_53 (by decide +kernel) ?_
                have hFc := va_free (wc := (mW g0 pq cp v fa)) hD hS hA (List.range 48) rfl
                refine va_calli (va_runV (As := [.int (-6)]) (rest := []) ⟨hx, hb, hml, hown, hts⟩ (c_X11_refuse l dC dI s.heap.size g0 pq cp v fa (-6) (by unfold vp_in; decide)) (cwV 1 hts gX11_man_X11_refuse rfl rfl rfl (by decide +kernel) ⟨(Nat.le_of_ble_eq_true rfl), (Nat.le_of_ble_eq_true rfl)⟩) (pr_V (r := (RX11, TX11, 63)) hP hK hD 0 11 rfl rfl) rfl rfl hl.1 rfl (lv_room (Nat.le_of_ble_eq_true rfl)) dX11_man_55 ⟨(Nat.le_of_ble_eq_true rfl), (Nat.le_of_ble_eq_true rfl)⟩) hS (fun q _ h => hFc q h) hFc (fun r_31 u t H locs ht hvm w_30 hB hz1 hk1 hS => ?_)
                obtain ⟨v_32, fa_33⟩ := u
                obtain ⟨hP1, hK1, hD1⟩ := hB
                rw [ht] at hP1
                have hP : va_P (dC, dI) vwCl (mW g0 pq cp v_32 fa_33) H := hP1
                have hD : va_D A (mW g0 pq cp v_32 fa_33) := hD1.weaken (fun _ _ _ h => hFc _ h)
                clear hP1 hK1 hD1 hk1 hz1 hvm ht hFc
                obtain ⟨rfl, w_30⟩ := w_30
                exact W.iret (v := (-6)) hx hb hr (fun t ht hW => ⟨⟨(-6), (v_32, fa_33), rfl, (by show gman _ _ _ _ _ _ _; unfold gman; rw [if_neg (fun h => h.elim c_1 (fun h => h.elim c_6 (fun h => h c_11))), if_pos (Or.inr (Or.inr (Or.inr c_27)))]; exact ⟨rfl, w_30⟩), ⟨by rw [ht]; exact hP, va_K.moved hW.alike hK, hD⟩⟩, hS.F ht⟩) hS.2.2 dX11_man_58
      · refine lv_aload_n hx hb dX11_man_15 rfl (lv_at hl 0 rfl) ?_
        refine lv_bipush (v := (-4)) hx hb dX11_man_16 (by decide +kernel) ?_
        have hFc := va_free (wc := (mW g0 pq cp v fa)) hD hS hA (List.range 48) rfl
        refine va_calli (va_runV (As := [.int (-4)]) (rest := []) ⟨hx, hb, hml, hown, hts⟩ (c_X11_refuse l dC dI s.heap.size g0 pq cp v fa (-4) (by unfold vp_in; decide)) (cwV 1 hts gX11_man_X11_refuse rfl rfl rfl (by decide +kernel) ⟨(Nat.le_of_ble_eq_true rfl), (Nat.le_of_ble_eq_true rfl)⟩) (pr_V (r := (RX11, TX11, 63)) hP hK hD 0 11 rfl rfl) rfl rfl hl.1 rfl (lv_room (Nat.le_of_ble_eq_true rfl)) dX11_man_18 ⟨(Nat.le_of_ble_eq_true rfl), (Nat.le_of_ble_eq_true rfl)⟩) hS (fun q _ h => hFc q h) hFc (fun r_35 u t H locs ht hvm w_34 hB hz1 hk1 hS => ?_)
        obtain ⟨v_36, fa_37⟩ := u
        obtain ⟨hP1, hK1, hD1⟩ := hB
        rw [ht] at hP1
        have hP : va_P (dC, dI) vwCl (mW g0 pq cp v_36 fa_37) H := hP1
        have hD : va_D A (mW g0 pq cp v_36 fa_37) := hD1.weaken (fun _ _ _ h => hFc _ h)
        clear hP1 hK1 hD1 hk1 hz1 hvm ht hFc
        obtain ⟨rfl, w_34⟩ := w_34
        exact W.iret (v := (-4)) hx hb hr (fun t ht hW => ⟨⟨(-4), (v_36, fa_37), rfl, (by show gman _ _ _ _ _ _ _; unfold gman; rw [if_pos (Or.inr (Or.inr c_11))]; exact ⟨rfl, w_34⟩), ⟨by rw [ht]; exact hP, va_K.moved hW.alike hK, hD⟩⟩, hS.F ht⟩) hS.2.2 dX11_man_21
