abbrev cX11_man : ByteArray := prog_13_method_11_code
def yX11_man : MethodName := ⟨RX11, "man", "(III)I"⟩
abbrev cX11_isFine : ByteArray := prog_13_method_58_code
def yX11_isFine : MethodName := ⟨RX11, "isFine", "(II)Z"⟩
abbrev cX11_asksAny : ByteArray := prog_13_method_75_code
def yX11_asksAny : MethodName := ⟨RX11, "asksAny", "(I)Z"⟩
theorem gw_X11_isAgreement : wsX11_isAgreement.all goodWord = true := by decide +kernel
def wsX11_man : List Cond := .code yX11_man cX11_man 4 (some .int) :: ([.constant RX11 178 (99999), .fieldLink RX11 171 "ShipOfficeModel" "now" "I", .fieldLink RX11 157 "ShipOfficeModel" "men" "I", .fieldLink RX11 16 "ShipOfficeModel" "name" "[I", .fieldLink RX11 19 "ShipOfficeModel" "marks" "[I", .fieldLink RX11 22 "ShipOfficeModel" "born" "[I", .methodLink RX11 153 yX11_refuse, .instanceMethod yX11_refuse, .selects RX11 yX11_refuse yX11_refuse, .initialized RX11, .code yX11_refuse cX11_refuse 2 (some .int), .fieldLink RX11 7 "ShipOfficeModel" "refusals" "[I"] ++ wsX110)
theorem il_X11_man_1 : ∀ w ∈ ([.constant RX11 178 (99999), .fieldLink RX11 171 "ShipOfficeModel" "now" "I", .fieldLink RX11 157 "ShipOfficeModel" "men" "I", .fieldLink RX11 16 "ShipOfficeModel" "name" "[I", .fieldLink RX11 19 "ShipOfficeModel" "marks" "[I", .fieldLink RX11 22 "ShipOfficeModel" "born" "[I", .methodLink RX11 153 yX11_refuse, .instanceMethod yX11_refuse, .selects RX11 yX11_refuse yX11_refuse, .initialized RX11, .code yX11_refuse cX11_refuse 2 (some .int), .fieldLink RX11 7 "ShipOfficeModel" "refusals" "[I"] : List Cond), w ∈ wsX11_man := fun w h => (List.mem_cons_of_mem _ (List.mem_append_left _ h))
theorem il_X11_man_2 : ∀ w ∈ wsX110, w ∈ wsX11_man := fun w h => (List.mem_cons_of_mem _ (List.mem_append_right _ h))
theorem iw_X11_man_1 : Cond.fieldLink RX11 171 "ShipOfficeModel" "now" "I" ∈ wsX11_man := (mmI il_X11_man_1 1 rfl)
theorem iw_X11_man_2 : Cond.fieldLink RX11 157 "ShipOfficeModel" "men" "I" ∈ wsX11_man := (mmI il_X11_man_1 2 rfl)
theorem iw_X11_man_3 : Cond.fieldLink RX11 16 "ShipOfficeModel" "name" "[I" ∈ wsX11_man := (mmI il_X11_man_1 3 rfl)
theorem iw_X11_man_4 : Cond.fieldLink RX11 19 "ShipOfficeModel" "marks" "[I" ∈ wsX11_man := (mmI il_X11_man_1 4 rfl)
theorem iw_X11_man_5 : Cond.fieldLink RX11 22 "ShipOfficeModel" "born" "[I" ∈ wsX11_man := (mmI il_X11_man_1 5 rfl)
def wsX11_isFine : List Cond := .code yX11_isFine cX11_isFine 3 (some .boolean) :: ([.fieldLink RX11 100 "ShipOfficeModel" "fines" "[I", .methodLink RX11 199 yX11_isAgreement, .instanceMethod yX11_isAgreement, .selects RX11 yX11_isAgreement yX11_isAgreement, .initialized RX11, .code yX11_isAgreement cX11_isAgreement 2 (some .boolean), .fieldLink RX11 168 "ShipOfficeModel" "agreements" "I", .methodLink RX11 161 yX11_isIn, .static yX11_isIn, .code yX11_isIn cX11_isIn 2 (some .boolean)] ++ wsX110)
theorem il_X11_isFine_1 : ∀ w ∈ ([.fieldLink RX11 100 "ShipOfficeModel" "fines" "[I", .methodLink RX11 199 yX11_isAgreement, .instanceMethod yX11_isAgreement, .selects RX11 yX11_isAgreement yX11_isAgreement, .initialized RX11, .code yX11_isAgreement cX11_isAgreement 2 (some .boolean), .fieldLink RX11 168 "ShipOfficeModel" "agreements" "I", .methodLink RX11 161 yX11_isIn, .static yX11_isIn, .code yX11_isIn cX11_isIn 2 (some .boolean)] : List Cond), w ∈ wsX11_isFine := fun w h => (List.mem_cons_of_mem _ (List.mem_append_left _ h))
theorem il_X11_isFine_2 : ∀ w ∈ wsX110, w ∈ wsX11_isFine := fun w h => (List.mem_cons_of_mem _ (List.mem_append_right _ h))
theorem iw_X11_isFine_1 : Cond.fieldLink RX11 100 "ShipOfficeModel" "fines" "[I" ∈ wsX11_isFine := (mmI il_X11_isFine_1 0 rfl)
def wsX11_asksAny : List Cond := .code yX11_asksAny cX11_asksAny 2 (some .boolean) :: ([.fieldLink RX11 25 "ShipOfficeModel" "asks" "[I"] ++ wsX110)
theorem il_X11_asksAny_1 : ∀ w ∈ ([.fieldLink RX11 25 "ShipOfficeModel" "asks" "[I"] : List Cond), w ∈ wsX11_asksAny := fun w h => (List.mem_cons_of_mem _ (List.mem_append_left _ h))
theorem iw_X11_asksAny_1 : Cond.fieldLink RX11 25 "ShipOfficeModel" "asks" "[I" ∈ wsX11_asksAny := (mmI il_X11_asksAny_1 0 rfl)
set_option maxRecDepth 100000 in
theorem ggX11_man_X11_refuse : GoodIn wsX11_man wsX11_refuse := goodIn_sub (mmC (mmI il_X11_man_1 10 rfl) (mmA (mmC (mmI il_X11_man_1 11 rfl) mmN) il_X11_man_2)) gw_X11_refuse
theorem gX11_man_X11_refuse : GoodIn wsX11_man (wsV RX11 153 RX11 yX11_refuse wsX11_refuse) := goodIn_app (goodIn_sub (mmC (mmI il_X11_man_1 6 rfl) (mmC (mmI il_X11_man_1 7 rfl) (mmC (mmI il_X11_man_1 8 rfl) (mmC (mmI il_X11_man_1 9 rfl) mmN)))) (by decide +kernel)) ggX11_man_X11_refuse
theorem dX11_man_0 : decode cX11_man 0 = .ok (.iload_n 1, 1) := by decide +kernel
theorem dX11_man_1 : decode cX11_man 1 = .ok (.ifCond .lt 14, 3) := by decide +kernel
theorem dX11_man_4 : decode cX11_man 4 = .ok (.iload_n 2, 1) := by decide +kernel
theorem dX11_man_5 : decode cX11_man 5 = .ok (.ifCond .lt 10, 3) := by decide +kernel
theorem dX11_man_8 : decode cX11_man 8 = .ok (.iload_n 3, 1) := by decide +kernel
theorem dX11_man_9 : decode cX11_man 9 = .ok (.sipush (-30000), 3) := by decide +kernel
theorem dX11_man_12 : decode cX11_man 12 = .ok (.if_icmp .ge 10, 3) := by decide +kernel
theorem dX11_man_15 : decode cX11_man 15 = .ok (.aload_n 0, 1) := by decide +kernel
theorem dX11_man_16 : decode cX11_man 16 = .ok (.bipush (-4), 2) := by decide +kernel
theorem dX11_man_18 : decode cX11_man 18 = .ok (.invokevirtual 153, 3) := by decide +kernel
theorem dX11_man_21 : decode cX11_man 21 = .ok (.ireturn, 1) := by decide +kernel
theorem dX11_man_22 : decode cX11_man 22 = .ok (.iload_n 1, 1) := by decide +kernel
theorem dX11_man_23 : decode cX11_man 23 = .ok (.sipush 9999, 3) := by decide +kernel
theorem dX11_man_26 : decode cX11_man 26 = .ok (.if_icmp .gt 26, 3) := by decide +kernel
theorem dX11_man_29 : decode cX11_man 29 = .ok (.iload_n 2, 1) := by decide +kernel
theorem dX11_man_30 : decode cX11_man 30 = .ok (.ldc 178, 2) := by decide +kernel
theorem dX11_man_32 : decode cX11_man 32 = .ok (.if_icmp .gt 20, 3) := by decide +kernel
theorem dX11_man_35 : decode cX11_man 35 = .ok (.iload_n 3, 1) := by decide +kernel
theorem dX11_man_36 : decode cX11_man 36 = .ok (.aload_n 0, 1) := by decide +kernel
theorem dX11_man_37 : decode cX11_man 37 = .ok (.getfield 171, 3) := by decide +kernel
theorem dX11_man_40 : decode cX11_man 40 = .ok (.if_icmp .gt 12, 3) := by decide +kernel
theorem dX11_man_43 : decode cX11_man 43 = .ok (.aload_n 0, 1) := by decide +kernel
theorem dX11_man_44 : decode cX11_man 44 = .ok (.getfield 157, 3) := by decide +kernel
theorem dX11_man_47 : decode cX11_man 47 = .ok (.bipush 40, 2) := by decide +kernel
theorem dX11_man_49 : decode cX11_man 49 = .ok (.if_icmp .ne 10, 3) := by decide +kernel
theorem dX11_man_52 : decode cX11_man 52 = .ok (.aload_n 0, 1) := by decide +kernel
theorem dX11_man_53 : decode cX11_man 53 = .ok (.bipush (-6), 2) := by decide +kernel
theorem dX11_man_55 : decode cX11_man 55 = .ok (.invokevirtual 153, 3) := by decide +kernel
theorem dX11_man_58 : decode cX11_man 58 = .ok (.ireturn, 1) := by decide +kernel
theorem dX11_man_59 : decode cX11_man 59 = .ok (.aload_n 0, 1) := by decide +kernel
theorem dX11_man_60 : decode cX11_man 60 = .ok (.getfield 16, 3) := by decide +kernel
theorem dX11_man_63 : decode cX11_man 63 = .ok (.aload_n 0, 1) := by decide +kernel
theorem dX11_man_64 : decode cX11_man 64 = .ok (.getfield 157, 3) := by decide +kernel
theorem dX11_man_67 : decode cX11_man 67 = .ok (.iload_n 1, 1) := by decide +kernel
theorem dX11_man_68 : decode cX11_man 68 = .ok (.iastore, 1) := by decide +kernel
theorem dX11_man_69 : decode cX11_man 69 = .ok (.aload_n 0, 1) := by decide +kernel
theorem dX11_man_70 : decode cX11_man 70 = .ok (.getfield 19, 3) := by decide +kernel
theorem dX11_man_73 : decode cX11_man 73 = .ok (.aload_n 0, 1) := by decide +kernel
theorem dX11_man_74 : decode cX11_man 74 = .ok (.getfield 157, 3) := by decide +kernel
theorem dX11_man_77 : decode cX11_man 77 = .ok (.iload_n 2, 1) := by decide +kernel
theorem dX11_man_78 : decode cX11_man 78 = .ok (.iastore, 1) := by decide +kernel
theorem dX11_man_79 : decode cX11_man 79 = .ok (.aload_n 0, 1) := by decide +kernel
theorem dX11_man_80 : decode cX11_man 80 = .ok (.getfield 22, 3) := by decide +kernel
theorem dX11_man_83 : decode cX11_man 83 = .ok (.aload_n 0, 1) := by decide +kernel
theorem dX11_man_84 : decode cX11_man 84 = .ok (.getfield 157, 3) := by decide +kernel
theorem dX11_man_87 : decode cX11_man 87 = .ok (.iload_n 3, 1) := by decide +kernel
theorem dX11_man_88 : decode cX11_man 88 = .ok (.iastore, 1) := by decide +kernel
theorem dX11_man_89 : decode cX11_man 89 = .ok (.aload_n 0, 1) := by decide +kernel
theorem dX11_man_90 : decode cX11_man 90 = .ok (.dup, 1) := by decide +kernel
theorem dX11_man_91 : decode cX11_man 91 = .ok (.getfield 157, 3) := by decide +kernel
theorem dX11_man_94 : decode cX11_man 94 = .ok (.iconst 1, 1) := by decide +kernel
theorem dX11_man_95 : decode cX11_man 95 = .ok (.iadd, 1) := by decide +kernel
theorem dX11_man_96 : decode cX11_man 96 = .ok (.putfield 157, 3) := by decide +kernel
theorem dX11_man_99 : decode cX11_man 99 = .ok (.aload_n 0, 1) := by decide +kernel
theorem dX11_man_100 : decode cX11_man 100 = .ok (.getfield 157, 3) := by decide +kernel
theorem dX11_man_103 : decode cX11_man 103 = .ok (.iconst 1, 1) := by decide +kernel
theorem dX11_man_104 : decode cX11_man 104 = .ok (.isub, 1) := by decide +kernel
theorem dX11_man_105 : decode cX11_man 105 = .ok (.ireturn, 1) := by decide +kernel
set_option maxRecDepth 100000 in
theorem ggX11_isFine_X11_isAgreement : GoodIn wsX11_isFine wsX11_isAgreement := goodIn_sub (mmC (mmI il_X11_isFine_1 5 rfl) (mmA (mmC (mmI il_X11_isFine_1 6 rfl) (mmC (mmI il_X11_isFine_1 7 rfl) (mmC (mmI il_X11_isFine_1 8 rfl) (mmC (mmI il_X11_isFine_1 4 rfl) (mmC (mmI il_X11_isFine_1 9 rfl) mmN))))) il_X11_isFine_2)) gw_X11_isAgreement
theorem gX11_isFine_X11_isAgreement : GoodIn wsX11_isFine (wsV RX11 199 RX11 yX11_isAgreement wsX11_isAgreement) := goodIn_app (goodIn_sub (mmC (mmI il_X11_isFine_1 1 rfl) (mmC (mmI il_X11_isFine_1 2 rfl) (mmC (mmI il_X11_isFine_1 3 rfl) (mmC (mmI il_X11_isFine_1 4 rfl) mmN)))) (by decide +kernel)) ggX11_isFine_X11_isAgreement
set_option maxRecDepth 100000 in
theorem ggX11_isFine_X11_isIn : GoodIn wsX11_isFine wsX11_isIn := goodIn_sub (mmC (mmI il_X11_isFine_1 9 rfl) mmN) gw_X11_isIn
set_option maxRecDepth 20000 in
theorem gX11_isFine_X11_isIn : GoodIn wsX11_isFine (va_wsS RX11 161 yX11_isIn wsX11_isIn) := goodIn_app (goodIn_of _ (by decide +kernel)) ggX11_isFine_X11_isIn
theorem dX11_isFine_0 : decode cX11_isFine 0 = .ok (.aload_n 0, 1) := by decide +kernel
theorem dX11_isFine_1 : decode cX11_isFine 1 = .ok (.iload_n 1, 1) := by decide +kernel
theorem dX11_isFine_2 : decode cX11_isFine 2 = .ok (.invokevirtual 199, 3) := by decide +kernel
theorem dX11_isFine_5 : decode cX11_isFine 5 = .ok (.ifCond .eq 20, 3) := by decide +kernel
theorem dX11_isFine_8 : decode cX11_isFine 8 = .ok (.iload_n 2, 1) := by decide +kernel
theorem dX11_isFine_9 : decode cX11_isFine 9 = .ok (.aload_n 0, 1) := by decide +kernel
theorem dX11_isFine_10 : decode cX11_isFine 10 = .ok (.getfield 100, 3) := by decide +kernel
theorem dX11_isFine_13 : decode cX11_isFine 13 = .ok (.iload_n 1, 1) := by decide +kernel
theorem dX11_isFine_14 : decode cX11_isFine 14 = .ok (.iaload, 1) := by decide +kernel
theorem dX11_isFine_15 : decode cX11_isFine 15 = .ok (.invokestatic 161, 3) := by decide +kernel
theorem dX11_isFine_18 : decode cX11_isFine 18 = .ok (.ifCond .eq 7, 3) := by decide +kernel
theorem dX11_isFine_21 : decode cX11_isFine 21 = .ok (.iconst 1, 1) := by decide +kernel
theorem dX11_isFine_22 : decode cX11_isFine 22 = .ok (.goto 4, 3) := by decide +kernel
theorem dX11_isFine_25 : decode cX11_isFine 25 = .ok (.iconst 0, 1) := by decide +kernel
theorem dX11_isFine_26 : decode cX11_isFine 26 = .ok (.ireturn, 1) := by decide +kernel
theorem dX11_asksAny_0 : decode cX11_asksAny 0 = .ok (.aload_n 0, 1) := by decide +kernel
theorem dX11_asksAny_1 : decode cX11_asksAny 1 = .ok (.getfield 25, 3) := by decide +kernel
theorem dX11_asksAny_4 : decode cX11_asksAny 4 = .ok (.iconst 4, 1) := by decide +kernel
theorem dX11_asksAny_5 : decode cX11_asksAny 5 = .ok (.iload_n 1, 1) := by decide +kernel
theorem dX11_asksAny_6 : decode cX11_asksAny 6 = .ok (.imul, 1) := by decide +kernel
theorem dX11_asksAny_7 : decode cX11_asksAny 7 = .ok (.iaload, 1) := by decide +kernel
theorem dX11_asksAny_8 : decode cX11_asksAny 8 = .ok (.aload_n 0, 1) := by decide +kernel
theorem dX11_asksAny_9 : decode cX11_asksAny 9 = .ok (.getfield 25, 3) := by decide +kernel
theorem dX11_asksAny_12 : decode cX11_asksAny 12 = .ok (.iconst 4, 1) := by decide +kernel
theorem dX11_asksAny_13 : decode cX11_asksAny 13 = .ok (.iload_n 1, 1) := by decide +kernel
theorem dX11_asksAny_14 : decode cX11_asksAny 14 = .ok (.imul, 1) := by decide +kernel
theorem dX11_asksAny_15 : decode cX11_asksAny 15 = .ok (.iconst 1, 1) := by decide +kernel
theorem dX11_asksAny_16 : decode cX11_asksAny 16 = .ok (.iadd, 1) := by decide +kernel
theorem dX11_asksAny_17 : decode cX11_asksAny 17 = .ok (.iaload, 1) := by decide +kernel
theorem dX11_asksAny_18 : decode cX11_asksAny 18 = .ok (.iadd, 1) := by decide +kernel
theorem dX11_asksAny_19 : decode cX11_asksAny 19 = .ok (.aload_n 0, 1) := by decide +kernel
theorem dX11_asksAny_20 : decode cX11_asksAny 20 = .ok (.getfield 25, 3) := by decide +kernel
theorem dX11_asksAny_23 : decode cX11_asksAny 23 = .ok (.iconst 4, 1) := by decide +kernel
theorem dX11_asksAny_24 : decode cX11_asksAny 24 = .ok (.iload_n 1, 1) := by decide +kernel
theorem dX11_asksAny_25 : decode cX11_asksAny 25 = .ok (.imul, 1) := by decide +kernel
theorem dX11_asksAny_26 : decode cX11_asksAny 26 = .ok (.iconst 2, 1) := by decide +kernel
theorem dX11_asksAny_27 : decode cX11_asksAny 27 = .ok (.iadd, 1) := by decide +kernel
theorem dX11_asksAny_28 : decode cX11_asksAny 28 = .ok (.iaload, 1) := by decide +kernel
theorem dX11_asksAny_29 : decode cX11_asksAny 29 = .ok (.iadd, 1) := by decide +kernel
theorem dX11_asksAny_30 : decode cX11_asksAny 30 = .ok (.aload_n 0, 1) := by decide +kernel
theorem dX11_asksAny_31 : decode cX11_asksAny 31 = .ok (.getfield 25, 3) := by decide +kernel
theorem dX11_asksAny_34 : decode cX11_asksAny 34 = .ok (.iconst 4, 1) := by decide +kernel
theorem dX11_asksAny_35 : decode cX11_asksAny 35 = .ok (.iload_n 1, 1) := by decide +kernel
theorem dX11_asksAny_36 : decode cX11_asksAny 36 = .ok (.imul, 1) := by decide +kernel
theorem dX11_asksAny_37 : decode cX11_asksAny 37 = .ok (.iconst 3, 1) := by decide +kernel
theorem dX11_asksAny_38 : decode cX11_asksAny 38 = .ok (.iadd, 1) := by decide +kernel
theorem dX11_asksAny_39 : decode cX11_asksAny 39 = .ok (.iaload, 1) := by decide +kernel
theorem dX11_asksAny_40 : decode cX11_asksAny 40 = .ok (.iadd, 1) := by decide +kernel
theorem dX11_asksAny_41 : decode cX11_asksAny 41 = .ok (.ifCond .le 7, 3) := by decide +kernel
theorem dX11_asksAny_44 : decode cX11_asksAny 44 = .ok (.iconst 1, 1) := by decide +kernel
theorem dX11_asksAny_45 : decode cX11_asksAny 45 = .ok (.goto 4, 3) := by decide +kernel
theorem dX11_asksAny_48 : decode cX11_asksAny 48 = .ok (.iconst 0, 1) := by decide +kernel
theorem dX11_asksAny_49 : decode cX11_asksAny 49 = .ok (.ireturn, 1) := by decide +kernel
theorem in_wsX11_isFine_X11 : ∀ w ∈ wsX110, w ∈ wsX11_isFine := fun w h => List.mem_cons_of_mem _ (List.mem_append_right _ h)
theorem in_wsX11_asksAny_X11 : ∀ w ∈ wsX110, w ∈ wsX11_asksAny := fun w h => List.mem_cons_of_mem _ (List.mem_append_right _ h)
theorem in_wsX11_man_X11 : ∀ w ∈ wsX110, w ∈ wsX11_man := fun w h => List.mem_cons_of_mem _ (List.mem_append_right _ h)

theorem isI_01 (x n : Int32) : isI x n = 0 ∨ isI x n = 1 := by
  unfold isI
  split
  · exact Or.inl rfl
  · split
    · exact Or.inl rfl
    · exact Or.inr rfl