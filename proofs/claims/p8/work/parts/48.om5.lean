abbrev cX0_uses : ByteArray := prog_2_method_2_code
def yX0_uses : MethodName := ⟨RX0, "uses", "(I)Z"⟩
abbrev cX0_joined : ByteArray := prog_2_method_4_code
def yX0_joined : MethodName := ⟨RX0, "joined", "(JJI)I"⟩
abbrev cX0_held : ByteArray := prog_2_method_5_code
def yX0_held : MethodName := ⟨RX0, "held", "(J)I"⟩
abbrev wsX60 : List Cond := u_ws RX6 TX6 6
abbrev cX6_yearsOn : ByteArray := prog_8_method_2_code
def yX6_yearsOn : MethodName := ⟨RX6, "yearsOn", "(I)I"⟩
abbrev cX6_asks : ByteArray := prog_8_method_3_code
def yX6_asks : MethodName := ⟨RX6, "asks", "()Z"⟩
abbrev cX6_isAlike : ByteArray := prog_8_method_4_code
def yX6_isAlike : MethodName := ⟨RX6, "isAlike", "(LShipOffice$Man;)Z"⟩
abbrev cX6_digitsApart : ByteArray := prog_8_method_5_code
def yX6_digitsApart : MethodName := ⟨RX6, "digitsApart", "(II)I"⟩
def wsX0_held : List Cond := .code yX0_held cX0_held 2 (some .int) :: ([.constantLong RX0 44 (1000000000), .constant RX0 46 (1000000000), .constantLong RX0 47 (-1000000000), .constant RX0 49 (-1000000000)])
theorem gw_X0_held : wsX0_held.all goodWord = true := by decide +kernel
def wsX0_joined : List Cond := .code yX0_joined cX0_joined 5 (some .int) :: ([.methodLink RX0 40 yX0_held, .static yX0_held, .initialized RX0, .code yX0_held cX0_held 2 (some .int), .constantLong RX0 44 (1000000000), .constant RX0 46 (1000000000), .constantLong RX0 47 (-1000000000), .constant RX0 49 (-1000000000)])
theorem il_X0_joined_1 : ∀ w ∈ ([.methodLink RX0 40 yX0_held, .static yX0_held, .initialized RX0, .code yX0_held cX0_held 2 (some .int), .constantLong RX0 44 (1000000000), .constant RX0 46 (1000000000), .constantLong RX0 47 (-1000000000), .constant RX0 49 (-1000000000)] : List Cond), w ∈ wsX0_joined := fun w h => (List.mem_cons_of_mem _ h)
def wsX0_uses : List Cond := .code yX0_uses cX0_uses 6 (some .boolean) :: ([.fieldLink RX0 16 "ShipOffice$Act" "code" "[I"] ++ wsX00)
theorem il_X0_uses_1 : ∀ w ∈ ([.fieldLink RX0 16 "ShipOffice$Act" "code" "[I"] : List Cond), w ∈ wsX0_uses := fun w h => (List.mem_cons_of_mem _ (List.mem_append_left _ h))
theorem iw_X0_uses_1 : Cond.fieldLink RX0 16 "ShipOffice$Act" "code" "[I" ∈ wsX0_uses := (mmI il_X0_uses_1 0 rfl)
def wsX6_yearsOn : List Cond := .code yX6_yearsOn cX6_yearsOn 2 (some .int) :: ([.fieldLink RX6 25 "ShipOffice$Man" "born" "I"] ++ wsX60)
theorem il_X6_yearsOn_1 : ∀ w ∈ ([.fieldLink RX6 25 "ShipOffice$Man" "born" "I"] : List Cond), w ∈ wsX6_yearsOn := fun w h => (List.mem_cons_of_mem _ (List.mem_append_left _ h))
theorem iw_X6_yearsOn_1 : Cond.fieldLink RX6 25 "ShipOffice$Man" "born" "I" ∈ wsX6_yearsOn := (mmI il_X6_yearsOn_1 0 rfl)
def wsX6_asks : List Cond := .code yX6_asks cX6_asks 5 (some .boolean) :: ([.fieldLink RX6 9 "ShipOffice$Man" "wages" "[I"] ++ wsX60)
theorem il_X6_asks_1 : ∀ w ∈ ([.fieldLink RX6 9 "ShipOffice$Man" "wages" "[I"] : List Cond), w ∈ wsX6_asks := fun w h => (List.mem_cons_of_mem _ (List.mem_append_left _ h))
theorem iw_X6_asks_1 : Cond.fieldLink RX6 9 "ShipOffice$Man" "wages" "[I" ∈ wsX6_asks := (mmI il_X6_asks_1 0 rfl)
def wsX6_digitsApart : List Cond := .code yX6_digitsApart cX6_digitsApart 6 (some .int) :: ([])
theorem gw_X6_digitsApart : wsX6_digitsApart.all goodWord = true := by decide +kernel
def wsX6_isAlike : List Cond := .code yX6_isAlike cX6_isAlike 2 (some .boolean) :: ([.fieldLink RX6 22 "ShipOffice$Man" "marks" "I", .fieldLink RX6 19 "ShipOffice$Man" "name" "I", .methodLink RX6 31 yX6_digitsApart, .static yX6_digitsApart, .initialized RX6, .code yX6_digitsApart cX6_digitsApart 6 (some .int)] ++ wsX60)
theorem il_X6_isAlike_1 : ∀ w ∈ ([.fieldLink RX6 22 "ShipOffice$Man" "marks" "I", .fieldLink RX6 19 "ShipOffice$Man" "name" "I", .methodLink RX6 31 yX6_digitsApart, .static yX6_digitsApart, .initialized RX6, .code yX6_digitsApart cX6_digitsApart 6 (some .int)] : List Cond), w ∈ wsX6_isAlike := fun w h => (List.mem_cons_of_mem _ (List.mem_append_left _ h))
theorem iw_X6_isAlike_1 : Cond.fieldLink RX6 22 "ShipOffice$Man" "marks" "I" ∈ wsX6_isAlike := (mmI il_X6_isAlike_1 0 rfl)
theorem iw_X6_isAlike_2 : Cond.fieldLink RX6 19 "ShipOffice$Man" "name" "I" ∈ wsX6_isAlike := (mmI il_X6_isAlike_1 1 rfl)
theorem dX0_uses_0 : decode cX0_uses 0 = .ok (.aload_n 0, 1) := by decide +kernel
theorem dX0_uses_1 : decode cX0_uses 1 = .ok (.getfield 16, 3) := by decide +kernel
theorem dX0_uses_4 : decode cX0_uses 4 = .ok (.astore_n 2, 1) := by decide +kernel
theorem dX0_uses_5 : decode cX0_uses 5 = .ok (.aload_n 2, 1) := by decide +kernel
theorem dX0_uses_6 : decode cX0_uses 6 = .ok (.arraylength, 1) := by decide +kernel
theorem dX0_uses_7 : decode cX0_uses 7 = .ok (.istore_n 3, 1) := by decide +kernel
theorem dX0_uses_8 : decode cX0_uses 8 = .ok (.iconst 0, 1) := by decide +kernel
theorem dX0_uses_9 : decode cX0_uses 9 = .ok (.istore 4, 2) := by decide +kernel
theorem dX0_uses_11 : decode cX0_uses 11 = .ok (.iload 4, 2) := by decide +kernel
theorem dX0_uses_13 : decode cX0_uses 13 = .ok (.iload_n 3, 1) := by decide +kernel
theorem dX0_uses_14 : decode cX0_uses 14 = .ok (.if_icmp .ge 25, 3) := by decide +kernel
theorem dX0_uses_17 : decode cX0_uses 17 = .ok (.aload_n 2, 1) := by decide +kernel
theorem dX0_uses_18 : decode cX0_uses 18 = .ok (.iload 4, 2) := by decide +kernel
theorem dX0_uses_20 : decode cX0_uses 20 = .ok (.iaload, 1) := by decide +kernel
theorem dX0_uses_21 : decode cX0_uses 21 = .ok (.istore 5, 2) := by decide +kernel
theorem dX0_uses_23 : decode cX0_uses 23 = .ok (.iload 5, 2) := by decide +kernel
theorem dX0_uses_25 : decode cX0_uses 25 = .ok (.iconst (-1), 1) := by decide +kernel
theorem dX0_uses_26 : decode cX0_uses 26 = .ok (.iload_n 1, 1) := by decide +kernel
theorem dX0_uses_27 : decode cX0_uses 27 = .ok (.isub, 1) := by decide +kernel
theorem dX0_uses_28 : decode cX0_uses 28 = .ok (.if_icmp .ne 5, 3) := by decide +kernel
theorem dX0_uses_31 : decode cX0_uses 31 = .ok (.iconst 1, 1) := by decide +kernel
theorem dX0_uses_32 : decode cX0_uses 32 = .ok (.ireturn, 1) := by decide +kernel
theorem dX0_uses_33 : decode cX0_uses 33 = .ok (.iinc 4 1, 3) := by decide +kernel
theorem dX0_uses_36 : decode cX0_uses 36 = .ok (.goto (-25), 3) := by decide +kernel
theorem dX0_uses_39 : decode cX0_uses 39 = .ok (.iconst 0, 1) := by decide +kernel
theorem dX0_uses_40 : decode cX0_uses 40 = .ok (.ireturn, 1) := by decide +kernel
set_option maxRecDepth 100000 in
theorem ggX0_joined_X0_held : GoodIn wsX0_joined wsX0_held := goodIn_sub (mmC (mmI il_X0_joined_1 3 rfl) (mmC (mmI il_X0_joined_1 4 rfl) (mmC (mmI il_X0_joined_1 5 rfl) (mmC (mmI il_X0_joined_1 6 rfl) (mmC (mmI il_X0_joined_1 7 rfl) mmN))))) gw_X0_held
set_option maxRecDepth 20000 in
theorem gX0_joined_X0_held : GoodIn wsX0_joined (va_wsS RX0 40 yX0_held wsX0_held) := goodIn_app (goodIn_of _ (by decide +kernel)) ggX0_joined_X0_held
theorem dX0_joined_0 : decode cX0_joined 0 = .ok (.iload 4, 2) := by decide +kernel
theorem dX0_joined_2 : decode cX0_joined 2 = .ok (.tableswitch 100 0 5 #[38, 45, 52, 59, 76, 88], 38) := by decide +kernel
theorem dX0_joined_40 : decode cX0_joined 40 = .ok (.lload_n 0, 1) := by decide +kernel
theorem dX0_joined_41 : decode cX0_joined 41 = .ok (.lload_n 2, 1) := by decide +kernel
theorem dX0_joined_42 : decode cX0_joined 42 = .ok (.ladd, 1) := by decide +kernel
theorem dX0_joined_43 : decode cX0_joined 43 = .ok (.invokestatic 40, 3) := by decide +kernel
theorem dX0_joined_46 : decode cX0_joined 46 = .ok (.ireturn, 1) := by decide +kernel
theorem dX0_joined_47 : decode cX0_joined 47 = .ok (.lload_n 0, 1) := by decide +kernel
theorem dX0_joined_48 : decode cX0_joined 48 = .ok (.lload_n 2, 1) := by decide +kernel
theorem dX0_joined_49 : decode cX0_joined 49 = .ok (.lsub, 1) := by decide +kernel
theorem dX0_joined_50 : decode cX0_joined 50 = .ok (.invokestatic 40, 3) := by decide +kernel
theorem dX0_joined_53 : decode cX0_joined 53 = .ok (.ireturn, 1) := by decide +kernel
theorem dX0_joined_54 : decode cX0_joined 54 = .ok (.lload_n 0, 1) := by decide +kernel
theorem dX0_joined_55 : decode cX0_joined 55 = .ok (.lload_n 2, 1) := by decide +kernel
theorem dX0_joined_56 : decode cX0_joined 56 = .ok (.lmul, 1) := by decide +kernel
theorem dX0_joined_57 : decode cX0_joined 57 = .ok (.invokestatic 40, 3) := by decide +kernel
theorem dX0_joined_60 : decode cX0_joined 60 = .ok (.ireturn, 1) := by decide +kernel
theorem dX0_joined_61 : decode cX0_joined 61 = .ok (.lload_n 2, 1) := by decide +kernel
theorem dX0_joined_62 : decode cX0_joined 62 = .ok (.lconst 0, 1) := by decide +kernel
theorem dX0_joined_63 : decode cX0_joined 63 = .ok (.lcmp, 1) := by decide +kernel
theorem dX0_joined_64 : decode cX0_joined 64 = .ok (.ifCond .ne 7, 3) := by decide +kernel
theorem dX0_joined_67 : decode cX0_joined 67 = .ok (.iconst 0, 1) := by decide +kernel
theorem dX0_joined_68 : decode cX0_joined 68 = .ok (.goto 9, 3) := by decide +kernel
theorem dX0_joined_71 : decode cX0_joined 71 = .ok (.lload_n 0, 1) := by decide +kernel
theorem dX0_joined_72 : decode cX0_joined 72 = .ok (.lload_n 2, 1) := by decide +kernel
theorem dX0_joined_73 : decode cX0_joined 73 = .ok (.ldiv, 1) := by decide +kernel
theorem dX0_joined_74 : decode cX0_joined 74 = .ok (.invokestatic 40, 3) := by decide +kernel
theorem dX0_joined_77 : decode cX0_joined 77 = .ok (.ireturn, 1) := by decide +kernel
theorem dX0_joined_78 : decode cX0_joined 78 = .ok (.lload_n 0, 1) := by decide +kernel
theorem dX0_joined_79 : decode cX0_joined 79 = .ok (.lload_n 2, 1) := by decide +kernel
theorem dX0_joined_80 : decode cX0_joined 80 = .ok (.lcmp, 1) := by decide +kernel
theorem dX0_joined_81 : decode cX0_joined 81 = .ok (.ifCond .ge 7, 3) := by decide +kernel
theorem dX0_joined_84 : decode cX0_joined 84 = .ok (.iconst 1, 1) := by decide +kernel
theorem dX0_joined_85 : decode cX0_joined 85 = .ok (.goto 4, 3) := by decide +kernel
theorem dX0_joined_88 : decode cX0_joined 88 = .ok (.iconst 0, 1) := by decide +kernel
theorem dX0_joined_89 : decode cX0_joined 89 = .ok (.ireturn, 1) := by decide +kernel
theorem dX0_joined_90 : decode cX0_joined 90 = .ok (.lload_n 0, 1) := by decide +kernel
theorem dX0_joined_91 : decode cX0_joined 91 = .ok (.lload_n 2, 1) := by decide +kernel
theorem dX0_joined_92 : decode cX0_joined 92 = .ok (.lcmp, 1) := by decide +kernel
theorem dX0_joined_93 : decode cX0_joined 93 = .ok (.ifCond .ne 7, 3) := by decide +kernel
theorem dX0_joined_96 : decode cX0_joined 96 = .ok (.iconst 1, 1) := by decide +kernel
theorem dX0_joined_97 : decode cX0_joined 97 = .ok (.goto 4, 3) := by decide +kernel
theorem dX0_joined_100 : decode cX0_joined 100 = .ok (.iconst 0, 1) := by decide +kernel
theorem dX0_joined_101 : decode cX0_joined 101 = .ok (.ireturn, 1) := by decide +kernel
theorem dX0_joined_102 : decode cX0_joined 102 = .ok (.lload_n 0, 1) := by decide +kernel
theorem dX0_joined_103 : decode cX0_joined 103 = .ok (.lload_n 2, 1) := by decide +kernel
theorem dX0_joined_104 : decode cX0_joined 104 = .ok (.lcmp, 1) := by decide +kernel
theorem dX0_joined_105 : decode cX0_joined 105 = .ok (.ifCond .le 7, 3) := by decide +kernel
theorem dX0_joined_108 : decode cX0_joined 108 = .ok (.iconst 1, 1) := by decide +kernel
theorem dX0_joined_109 : decode cX0_joined 109 = .ok (.goto 4, 3) := by decide +kernel
theorem dX0_joined_112 : decode cX0_joined 112 = .ok (.iconst 0, 1) := by decide +kernel
theorem dX0_joined_113 : decode cX0_joined 113 = .ok (.ireturn, 1) := by decide +kernel
theorem dX0_held_0 : decode cX0_held 0 = .ok (.lload_n 0, 1) := by decide +kernel
theorem dX0_held_1 : decode cX0_held 1 = .ok (.ldc2_w 44, 3) := by decide +kernel
theorem dX0_held_4 : decode cX0_held 4 = .ok (.lcmp, 1) := by decide +kernel
theorem dX0_held_5 : decode cX0_held 5 = .ok (.ifCond .le 6, 3) := by decide +kernel
theorem dX0_held_8 : decode cX0_held 8 = .ok (.ldc 46, 2) := by decide +kernel
theorem dX0_held_10 : decode cX0_held 10 = .ok (.ireturn, 1) := by decide +kernel
theorem dX0_held_11 : decode cX0_held 11 = .ok (.lload_n 0, 1) := by decide +kernel
theorem dX0_held_12 : decode cX0_held 12 = .ok (.ldc2_w 47, 3) := by decide +kernel
theorem dX0_held_15 : decode cX0_held 15 = .ok (.lcmp, 1) := by decide +kernel
theorem dX0_held_16 : decode cX0_held 16 = .ok (.ifCond .ge 8, 3) := by decide +kernel
theorem dX0_held_19 : decode cX0_held 19 = .ok (.ldc 49, 2) := by decide +kernel
theorem dX0_held_21 : decode cX0_held 21 = .ok (.goto 5, 3) := by decide +kernel
theorem dX0_held_24 : decode cX0_held 24 = .ok (.lload_n 0, 1) := by decide +kernel
theorem dX0_held_25 : decode cX0_held 25 = .ok (.l2i, 1) := by decide +kernel
theorem dX0_held_26 : decode cX0_held 26 = .ok (.ireturn, 1) := by decide +kernel
theorem dX6_yearsOn_0 : decode cX6_yearsOn 0 = .ok (.iload_n 1, 1) := by decide +kernel
theorem dX6_yearsOn_1 : decode cX6_yearsOn 1 = .ok (.aload_n 0, 1) := by decide +kernel
theorem dX6_yearsOn_2 : decode cX6_yearsOn 2 = .ok (.getfield 25, 3) := by decide +kernel
theorem dX6_yearsOn_5 : decode cX6_yearsOn 5 = .ok (.isub, 1) := by decide +kernel
theorem dX6_yearsOn_6 : decode cX6_yearsOn 6 = .ok (.sipush 365, 3) := by decide +kernel
theorem dX6_yearsOn_9 : decode cX6_yearsOn 9 = .ok (.idiv, 1) := by decide +kernel
theorem dX6_yearsOn_10 : decode cX6_yearsOn 10 = .ok (.ireturn, 1) := by decide +kernel
theorem dX6_asks_0 : decode cX6_asks 0 = .ok (.aload_n 0, 1) := by decide +kernel
theorem dX6_asks_1 : decode cX6_asks 1 = .ok (.getfield 9, 3) := by decide +kernel
theorem dX6_asks_4 : decode cX6_asks 4 = .ok (.astore_n 1, 1) := by decide +kernel
theorem dX6_asks_5 : decode cX6_asks 5 = .ok (.aload_n 1, 1) := by decide +kernel
theorem dX6_asks_6 : decode cX6_asks 6 = .ok (.arraylength, 1) := by decide +kernel
theorem dX6_asks_7 : decode cX6_asks 7 = .ok (.istore_n 2, 1) := by decide +kernel
theorem dX6_asks_8 : decode cX6_asks 8 = .ok (.iconst 0, 1) := by decide +kernel
theorem dX6_asks_9 : decode cX6_asks 9 = .ok (.istore_n 3, 1) := by decide +kernel
theorem dX6_asks_10 : decode cX6_asks 10 = .ok (.iload_n 3, 1) := by decide +kernel
theorem dX6_asks_11 : decode cX6_asks 11 = .ok (.iload_n 2, 1) := by decide +kernel
theorem dX6_asks_12 : decode cX6_asks 12 = .ok (.if_icmp .ge 21, 3) := by decide +kernel
theorem dX6_asks_15 : decode cX6_asks 15 = .ok (.aload_n 1, 1) := by decide +kernel
theorem dX6_asks_16 : decode cX6_asks 16 = .ok (.iload_n 3, 1) := by decide +kernel
theorem dX6_asks_17 : decode cX6_asks 17 = .ok (.iaload, 1) := by decide +kernel
theorem dX6_asks_18 : decode cX6_asks 18 = .ok (.istore 4, 2) := by decide +kernel
theorem dX6_asks_20 : decode cX6_asks 20 = .ok (.iload 4, 2) := by decide +kernel
theorem dX6_asks_22 : decode cX6_asks 22 = .ok (.ifCond .le 5, 3) := by decide +kernel
theorem dX6_asks_25 : decode cX6_asks 25 = .ok (.iconst 1, 1) := by decide +kernel
theorem dX6_asks_26 : decode cX6_asks 26 = .ok (.ireturn, 1) := by decide +kernel
theorem dX6_asks_27 : decode cX6_asks 27 = .ok (.iinc 3 1, 3) := by decide +kernel
theorem dX6_asks_30 : decode cX6_asks 30 = .ok (.goto (-20), 3) := by decide +kernel
theorem dX6_asks_33 : decode cX6_asks 33 = .ok (.iconst 0, 1) := by decide +kernel
theorem dX6_asks_34 : decode cX6_asks 34 = .ok (.ireturn, 1) := by decide +kernel
set_option maxRecDepth 100000 in
theorem ggX6_isAlike_X6_digitsApart : GoodIn wsX6_isAlike wsX6_digitsApart := goodIn_sub (mmC (mmI il_X6_isAlike_1 5 rfl) mmN) gw_X6_digitsApart
set_option maxRecDepth 20000 in
theorem gX6_isAlike_X6_digitsApart : GoodIn wsX6_isAlike (va_wsS RX6 31 yX6_digitsApart wsX6_digitsApart) := goodIn_app (goodIn_of _ (by decide +kernel)) ggX6_isAlike_X6_digitsApart
theorem dX6_isAlike_0 : decode cX6_isAlike 0 = .ok (.aload_n 0, 1) := by decide +kernel
theorem dX6_isAlike_1 : decode cX6_isAlike 1 = .ok (.getfield 22, 3) := by decide +kernel
theorem dX6_isAlike_4 : decode cX6_isAlike 4 = .ok (.aload_n 1, 1) := by decide +kernel
theorem dX6_isAlike_5 : decode cX6_isAlike 5 = .ok (.getfield 22, 3) := by decide +kernel
theorem dX6_isAlike_8 : decode cX6_isAlike 8 = .ok (.if_icmp .eq 29, 3) := by decide +kernel
theorem dX6_isAlike_11 : decode cX6_isAlike 11 = .ok (.aload_n 0, 1) := by decide +kernel
theorem dX6_isAlike_12 : decode cX6_isAlike 12 = .ok (.getfield 19, 3) := by decide +kernel
theorem dX6_isAlike_15 : decode cX6_isAlike 15 = .ok (.aload_n 1, 1) := by decide +kernel
theorem dX6_isAlike_16 : decode cX6_isAlike 16 = .ok (.getfield 19, 3) := by decide +kernel
theorem dX6_isAlike_19 : decode cX6_isAlike 19 = .ok (.if_icmp .ne 22, 3) := by decide +kernel
theorem dX6_isAlike_22 : decode cX6_isAlike 22 = .ok (.aload_n 0, 1) := by decide +kernel
theorem dX6_isAlike_23 : decode cX6_isAlike 23 = .ok (.getfield 22, 3) := by decide +kernel
theorem dX6_isAlike_26 : decode cX6_isAlike 26 = .ok (.aload_n 1, 1) := by decide +kernel
theorem dX6_isAlike_27 : decode cX6_isAlike 27 = .ok (.getfield 22, 3) := by decide +kernel
theorem dX6_isAlike_30 : decode cX6_isAlike 30 = .ok (.invokestatic 31, 3) := by decide +kernel
theorem dX6_isAlike_33 : decode cX6_isAlike 33 = .ok (.iconst 1, 1) := by decide +kernel
theorem dX6_isAlike_34 : decode cX6_isAlike 34 = .ok (.if_icmp .gt 7, 3) := by decide +kernel
theorem dX6_isAlike_37 : decode cX6_isAlike 37 = .ok (.iconst 1, 1) := by decide +kernel
theorem dX6_isAlike_38 : decode cX6_isAlike 38 = .ok (.goto 4, 3) := by decide +kernel
theorem dX6_isAlike_41 : decode cX6_isAlike 41 = .ok (.iconst 0, 1) := by decide +kernel
theorem dX6_isAlike_42 : decode cX6_isAlike 42 = .ok (.ireturn, 1) := by decide +kernel
theorem dX6_digitsApart_0 : decode cX6_digitsApart 0 = .ok (.iconst 0, 1) := by decide +kernel
theorem dX6_digitsApart_1 : decode cX6_digitsApart 1 = .ok (.istore_n 2, 1) := by decide +kernel
theorem dX6_digitsApart_2 : decode cX6_digitsApart 2 = .ok (.iload_n 0, 1) := by decide +kernel
theorem dX6_digitsApart_3 : decode cX6_digitsApart 3 = .ok (.istore_n 3, 1) := by decide +kernel
theorem dX6_digitsApart_4 : decode cX6_digitsApart 4 = .ok (.iload_n 1, 1) := by decide +kernel
theorem dX6_digitsApart_5 : decode cX6_digitsApart 5 = .ok (.istore 4, 2) := by decide +kernel
theorem dX6_digitsApart_7 : decode cX6_digitsApart 7 = .ok (.iconst 0, 1) := by decide +kernel
theorem dX6_digitsApart_8 : decode cX6_digitsApart 8 = .ok (.istore 5, 2) := by decide +kernel
theorem dX6_digitsApart_10 : decode cX6_digitsApart 10 = .ok (.iload 5, 2) := by decide +kernel
theorem dX6_digitsApart_12 : decode cX6_digitsApart 12 = .ok (.iconst 5, 1) := by decide +kernel
theorem dX6_digitsApart_13 : decode cX6_digitsApart 13 = .ok (.if_icmp .ge 36, 3) := by decide +kernel
theorem dX6_digitsApart_16 : decode cX6_digitsApart 16 = .ok (.iload_n 3, 1) := by decide +kernel
theorem dX6_digitsApart_17 : decode cX6_digitsApart 17 = .ok (.bipush 10, 2) := by decide +kernel
theorem dX6_digitsApart_19 : decode cX6_digitsApart 19 = .ok (.irem, 1) := by decide +kernel
theorem dX6_digitsApart_20 : decode cX6_digitsApart 20 = .ok (.iload 4, 2) := by decide +kernel
theorem dX6_digitsApart_22 : decode cX6_digitsApart 22 = .ok (.bipush 10, 2) := by decide +kernel
theorem dX6_digitsApart_24 : decode cX6_digitsApart 24 = .ok (.irem, 1) := by decide +kernel
theorem dX6_digitsApart_25 : decode cX6_digitsApart 25 = .ok (.if_icmp .eq 6, 3) := by decide +kernel
theorem dX6_digitsApart_28 : decode cX6_digitsApart 28 = .ok (.iinc 2 1, 3) := by decide +kernel
theorem dX6_digitsApart_31 : decode cX6_digitsApart 31 = .ok (.iload_n 3, 1) := by decide +kernel
theorem dX6_digitsApart_32 : decode cX6_digitsApart 32 = .ok (.bipush 10, 2) := by decide +kernel
theorem dX6_digitsApart_34 : decode cX6_digitsApart 34 = .ok (.idiv, 1) := by decide +kernel
theorem dX6_digitsApart_35 : decode cX6_digitsApart 35 = .ok (.istore_n 3, 1) := by decide +kernel
theorem dX6_digitsApart_36 : decode cX6_digitsApart 36 = .ok (.iload 4, 2) := by decide +kernel
theorem dX6_digitsApart_38 : decode cX6_digitsApart 38 = .ok (.bipush 10, 2) := by decide +kernel
theorem dX6_digitsApart_40 : decode cX6_digitsApart 40 = .ok (.idiv, 1) := by decide +kernel
theorem dX6_digitsApart_41 : decode cX6_digitsApart 41 = .ok (.istore 4, 2) := by decide +kernel
theorem dX6_digitsApart_43 : decode cX6_digitsApart 43 = .ok (.iinc 5 1, 3) := by decide +kernel
theorem dX6_digitsApart_46 : decode cX6_digitsApart 46 = .ok (.goto (-36), 3) := by decide +kernel
theorem dX6_digitsApart_49 : decode cX6_digitsApart 49 = .ok (.iload_n 2, 1) := by decide +kernel
theorem dX6_digitsApart_50 : decode cX6_digitsApart 50 = .ok (.ireturn, 1) := by decide +kernel
theorem in_wsX6_yearsOn_X6 : ∀ w ∈ wsX60, w ∈ wsX6_yearsOn := fun w h => List.mem_cons_of_mem _ (List.mem_append_right _ h)
theorem in_wsX6_asks_X6 : ∀ w ∈ wsX60, w ∈ wsX6_asks := fun w h => List.mem_cons_of_mem _ (List.mem_append_right _ h)
theorem in_wsX6_isAlike_X6 : ∀ w ∈ wsX60, w ∈ wsX6_isAlike := fun w h => List.mem_cons_of_mem _ (List.mem_append_right _ h)
theorem in_wsX0_uses_X0 : ∀ w ∈ wsX00, w ∈ wsX0_uses := fun w h => List.mem_cons_of_mem _ (List.mem_append_right _ h)

set_option maxHeartbeats 4000000 in
set_option maxRecDepth 100000 in
theorem c_X6_yearsOn (l : Launch) (dC : Nat → ClassId) (dI : Nat → Nat → Nat) (sz : Nat) (cq : Nat → ClassId) (Z : oS) (gI : oInv Z) (o : Nat) (to : oty Z o 6) (x1 : Int32) : Met l yX6_yearsOn wsX6_yearsOn ({ frames := 0, cells := 0, slots := 0, locals := 0 }) (va_Pc [.ref o, .int x1] (pcW (dC, dI) (oT cq) (oW cq Z) sz)) (va_Qi (fun (r : Int32) (u : Unit) => True) (fun _ _ => True) (va_A [] sz)) 0 0 (va_A [] sz) := by
  refine Met.ofW (cc := cX6_yearsOn) (maxL := 2) (ret := (some .int)) (by decide +kernel) rfl ?_
  intro p e s m args below meth c s₁ B hml hv
  obtain ⟨rfl, hsz, hP, hK, hD0⟩ := hv
  have hx := B.exec
  have hb := B.bytes
  have hr := B.returns
  have hts := atoms_spec (ws := wsX6_yearsOn) B.pre
  have hown : s.vm.findClass RX6 = some m.cls := findClass_of_methodNamed B.named
  have hlocks := B.notSynchronized
  subst hsz
  have hD := hD0
  generalize hAe : va_A [] s.heap.size = A at ⊢
  have hA : ∀ q : Nat, s.heap.size ≤ q → A q := fun q h => by rw [← hAe]; exact Or.inr h
  have hS : va_S A s.heap s.heap [] := va_S.rf
  have hP : va_P (dC, dI) vwCl (oW cq Z) s.heap := hP
  have hl := lv_entry ([.ref o, .int x1]) (n := 2) (Nat.le_of_ble_eq_true rfl)
  rw [lg_entry_eq]
  generalize (lg_sl ([.ref o, .int x1]) ++ List.replicate (2 - (lg_sl ([.ref o, .int x1])).length) Slot.unset).toArray = ls at hl ⊢
  have hl : lv_has ls 2 [(0, .ref o), (1, .int x1)] := hl
  refine lv_iload_n hx hb dX6_yearsOn_0 rfl (lv_at hl 1 rfl) ?_
  refine lv_aload_n hx hb dX6_yearsOn_1 rfl (lv_at hl 0 rfl) ?_
  obtain ⟨q_1, hq_1⟩ := og (cq := cq) to.1 (oE_6 to.2)
  refine va_get (D := (dC, dI)) (ci := 6) (v := .int (oI Z o 3)) (C := RX6) (T := TX6) (N := 6) hx hb hts in_wsX6_yearsOn_X6 hown hK hP q_1 hq_1 rfl 3 (by decide +kernel) (hts (.fieldLink RX6 25 "ShipOffice$Man" "born" "I") iw_X6_yearsOn_1) (fun _ h9 => h9) rfl dX6_yearsOn_2 ?_
  refine lv_topi (fun x_2 ex_2 => ?_)
  clear ex_2
  refine lv_isub hx hb dX6_yearsOn_5 ?_
  refine lv_topi (fun x_3 ex_3 => ?_)
  clear ex_3
  refine lv_sipush (v := 365) hx hb dX6_yearsOn_6 (by decide +kernel) ?_
  refine lv_idiv hx hb dX6_yearsOn_9 (by decide +kernel) ?_
  refine lv_topi (fun x_4 ex_4 => ?_)
  clear ex_4
  exact W.iret (v := x_4) hx hb hr (fun t ht hW => ⟨⟨x_4, (), rfl, trivial, trivial⟩, hS.F ht⟩) hS.2.2 dX6_yearsOn_10
set_option maxHeartbeats 4000000 in
set_option maxRecDepth 100000 in
theorem c_X6_asks (l : Launch) (dC : Nat → ClassId) (dI : Nat → Nat → Nat) (sz : Nat) (cq : Nat → ClassId) (Z : oS) (gI : oInv Z) (o : Nat) (to : oty Z o 6) : Met l yX6_asks wsX6_asks ({ frames := 0, cells := 0, slots := 0, locals := 0 }) (va_Pc [.ref o] (pcW (dC, dI) (oT cq) (oW cq Z) sz)) (va_Qi (fun (r : Int32) (u : Unit) => (0 ≤ r.toInt ∧ r.toInt ≤ 1)) (fun _ _ => True) (va_A [] sz)) 0 0 (va_A [] sz) := by
  refine Met.ofW (cc := cX6_asks) (maxL := 5) (ret := (some .boolean)) (by decide +kernel) rfl ?_
  intro p e s m args below meth c s₁ B hml hv
  obtain ⟨rfl, hsz, hP, hK, hD0⟩ := hv
  have hx := B.exec
  have hb := B.bytes
  have hr := B.returns
  have hts := atoms_spec (ws := wsX6_asks) B.pre
  have hown : s.vm.findClass RX6 = some m.cls := findClass_of_methodNamed B.named
  have hlocks := B.notSynchronized
  subst hsz
  have hD := hD0
  generalize hAe : va_A [] s.heap.size = A at ⊢
  have hA : ∀ q : Nat, s.heap.size ≤ q → A q := fun q h => by rw [← hAe]; exact Or.inr h
  have hS : va_S A s.heap s.heap [] := va_S.rf
  have hP : va_P (dC, dI) vwCl (oW cq Z) s.heap := hP
  have hl := lv_entry ([.ref o]) (n := 5) (Nat.le_of_ble_eq_true rfl)
  rw [lg_entry_eq]
  generalize (lg_sl ([.ref o]) ++ List.replicate (5 - (lg_sl ([.ref o])).length) Slot.unset).toArray = ls at hl ⊢
  have hl : lv_has ls 5 [(0, .ref o)] := hl
  refine lv_aload_n hx hb dX6_asks_0 rfl (lv_at hl 0 rfl) ?_
  obtain ⟨q_1, hq_1⟩ := og (cq := cq) to.1 (oE_6 to.2)
  obtain ⟨b_2, hb_2⟩ := oInv.nn (i := 4) gI to rfl
  refine va_get (D := (dC, dI)) (ci := 6) (v := .ref b_2) (C := RX6) (T := TX6) (N := 6) hx hb hts in_wsX6_asks_X6 hown hK hP q_1 hq_1 rfl 4 (by decide +kernel) (hts (.fieldLink RX6 9 "ShipOffice$Man" "wages" "[I") iw_X6_asks_1) (fun _ h9 => h9) (o_rd hb_2) dX6_asks_1 ?_
  have tb_2 : oty Z b_2 104 := oInv.rd gI to.2 hb_2 rfl rfl
  refine lv_astore_n (lv' := [(1, .ref b_2), (0, .ref o)]) hx hb dX6_asks_4 rfl hl (by decide +kernel) rfl (fun ls hl => ?_)
  refine lv_aload_n hx hb dX6_asks_5 rfl (lv_at hl 0 rfl) ?_
  obtain ⟨q_3, hq_3⟩ := og (cq := cq) tb_2.1 (oE_a1 (n := 4) tb_2.2 (by decide +kernel))
  refine va_alen (v := 4) hx hb hK hP q_3 0 hq_3 rfl (show Int32.ofNat 4 = 4 by decide) dX6_asks_6 ?_
  refine lv_istore_n (lv' := [(2, .int 4), (1, .ref b_2), (0, .ref o)]) hx hb dX6_asks_7 rfl hl (by decide +kernel) rfl (fun ls hl => ?_)
  refine lv_iconst (v := 0) hx hb dX6_asks_8 (by decide +kernel) ?_
  refine lv_istore_n (lv' := [(3, .int 0), (2, .int 4), (1, .ref b_2), (0, .ref o)]) hx hb dX6_asks_9 rfl hl (by decide +kernel) rfl (fun ls hl => ?_)
  have cut_4 : ∀ (n : Nat) (y_5 : Int32) (H : Heap) (locs : List Loc) (ls : Array Slot), 4 - y_5.toInt ≤ (n : Int) → (0 ≤ y_5.toInt ∧ y_5.toInt ≤ 4) → va_P (dC, dI) vwCl (oW cq Z) H → va_S A s.heap H locs → lv_has ls 5 [(3, .int y_5), (2, .int 4), (1, .ref b_2), (0, .ref o)] → W p l e (headSpec wsX6_asks { frames := 0, cells := 0, slots := 0, locals := 0 }).room s m #[Value.ref o] below meth c H locs 0 0 (MQ below (va_Qi (fun (r : Int32) (u : Unit) => (0 ≤ r.toInt ∧ r.toInt ≤ 1)) (fun _ _ => True) A) #[Value.ref o] s 0 0 A) (F0 m 10 ls []) := by
    intro n
    induction n using Nat.strongRecOn with
    | ind n ih =>
      intro y_5 H locs ls hm hy_5 hP hS hl
      refine lv_iload_n hx hb dX6_asks_10 rfl (lv_at hl 0 rfl) ?_
      refine lv_iload_n hx hb dX6_asks_11 rfl (lv_at hl 1 rfl) ?_
      refine lv_icmp_ge (tgt := 33) hx hb dX6_asks_12 (by decide +kernel) (fun c_6 => ?_) (fun c_6 => ?_)
      · have dc_6 := c_le (a := 4) (b := y_5.toInt) (by decide +kernel) rfl c_6
        refine lv_iconst (v := 0) hx hb dX6_asks_33 (by decide +kernel) ?_
        exact W.zret (v := 0) hx hb hr rfl (fun t ht hW => ⟨⟨0, (), rfl, (by decide +kernel), trivial⟩, hS.F ht⟩) hS.2.2 dX6_asks_34
      · have dc_6 := c_nle (a := 4) (b := y_5.toInt) (by decide +kernel) rfl c_6
        refine lv_aload_n hx hb dX6_asks_15 rfl (lv_at hl 2 rfl) ?_
        refine lv_iload_n hx hb dX6_asks_16 rfl (lv_at hl 0 rfl) ?_
        obtain ⟨q_7, hq_7⟩ := og (cq := cq) tb_2.1 (oE_a1 (n := 4) tb_2.2 (by decide +kernel))
        refine va_iald hx hb hK hP q_7 0 hq_7 rfl (vp_in_iff.mpr (by omega)) dX6_asks_17 ?_
        refine lv_topi (fun x_8 ex_8 => ?_)
        clear ex_8
        refine lv_istore (lv' := [(4, .int x_8), (3, .int y_5), (2, .int 4), (1, .ref b_2), (0, .ref o)]) hx hb dX6_asks_18 hl (by decide +kernel) rfl (fun ls hl => ?_)
        refine lv_iload hx hb dX6_asks_20 (lv_at hl 0 rfl) ?_
        refine lv_if_le (tgt := 27) hx hb dX6_asks_22 (by decide +kernel) (fun c_9 => ?_) (fun c_9 => ?_)
        · have dc_9 := c_le (a := x_8.toInt) (b := 0) rfl (by decide +kernel) c_9
          obtain ⟨x_10, ex_10⟩ : ∃ zq : Int32, y_5 + 1 = zq := ⟨_, rfl⟩
          have hx_10 : x_10.toInt = y_5.toInt + 1 := (iv_to ex_10).symm.trans (ad_i rfl (by decide +kernel) (by omega) (by omega))
          refine lv_iinc (v := x_10) (lv' := [(3, .int x_10), (4, .int x_8), (2, .int 4), (1, .ref b_2), (0, .ref o)]) hx hb dX6_asks_27 hl (k := 1) rfl ex_10 (by decide +kernel) rfl (fun ls hl => ?_)
          clear ex_10
          refine lv_goto (tgt := 10) hx hb dX6_asks_30 (by decide +kernel) ?_
          exact ih (n - 1) (by omega) x_10 _ _ ls (by omega) (by omega) hP hS (lv_sub hl [0, 2, 3, 4] rfl)
        · have dc_9 := c_nle (a := x_8.toInt) (b := 0) rfl (by decide +kernel) c_9
          refine lv_iconst (v := 1) hx hb dX6_asks_25 (by decide +kernel) ?_
          exact W.zret (v := 1) hx hb hr rfl (fun t ht hW => ⟨⟨1, (), rfl, (by decide +kernel), trivial⟩, hS.F ht⟩) hS.2.2 dX6_asks_26
  have kc_11 : (0 : Int32).toInt = 0 := by decide
  exact cut_4 5 0 _ _ ls (by omega) (by decide +kernel) hP hS (lv_sub hl [0, 1, 2, 3] rfl)
set_option maxHeartbeats 4000000 in
set_option maxRecDepth 100000 in
theorem c_X6_digitsApart (l : Launch) (dC : Nat → ClassId) (dI : Nat → Nat → Nat) (sz : Nat) (x1 : Int32) (x2 : Int32) : Met l yX6_digitsApart wsX6_digitsApart ({ frames := 0, cells := 0, slots := 0, locals := 0 }) (va_Pc [.int x1, .int x2] (pcW (dC, dI) [] [] sz)) (va_Qi (fun (r : Int32) (u : Unit) => True) (fun _ _ => True) (va_A [] sz)) 0 0 (va_A [] sz) := by
  refine Met.ofW (cc := cX6_digitsApart) (maxL := 6) (ret := (some .int)) (by decide +kernel) rfl ?_
  intro p e s m args below meth c s₁ B hml hv
  obtain ⟨rfl, hsz, hP, hK, hD0⟩ := hv
  have hx := B.exec
  have hb := B.bytes
  have hr := B.returns
  have hts := atoms_spec (ws := wsX6_digitsApart) B.pre
  have hown : s.vm.findClass RX6 = some m.cls := findClass_of_methodNamed B.named
  have hlocks := B.notSynchronized
  subst hsz
  have hD := hD0
  generalize hAe : va_A [] s.heap.size = A at ⊢
  have hA : ∀ q : Nat, s.heap.size ≤ q → A q := fun q h => by rw [← hAe]; exact Or.inr h
  have hS : va_S A s.heap s.heap [] := va_S.rf
  have hP : va_P (dC, dI) vwCl [] s.heap := hP
  have hl := lv_entry ([.int x1, .int x2]) (n := 6) (Nat.le_of_ble_eq_true rfl)
  rw [lg_entry_eq]
  generalize (lg_sl ([.int x1, .int x2]) ++ List.replicate (6 - (lg_sl ([.int x1, .int x2])).length) Slot.unset).toArray = ls at hl ⊢
  have hl : lv_has ls 6 [(0, .int x1), (1, .int x2)] := hl
  refine lv_iconst (v := 0) hx hb dX6_digitsApart_0 (by decide +kernel) ?_
  refine lv_istore_n (lv' := [(2, .int 0), (0, .int x1), (1, .int x2)]) hx hb dX6_digitsApart_1 rfl hl (by decide +kernel) rfl (fun ls hl => ?_)
  refine lv_iload_n hx hb dX6_digitsApart_2 rfl (lv_at hl 1 rfl) ?_
  refine lv_istore_n (lv' := [(3, .int x1), (2, .int 0), (0, .int x1), (1, .int x2)]) hx hb dX6_digitsApart_3 rfl hl (by decide +kernel) rfl (fun ls hl => ?_)
  refine lv_iload_n hx hb dX6_digitsApart_4 rfl (lv_at hl 3 rfl) ?_
  refine lv_istore (lv' := [(4, .int x2), (3, .int x1), (2, .int 0), (0, .int x1), (1, .int x2)]) hx hb dX6_digitsApart_5 hl (by decide +kernel) rfl (fun ls hl => ?_)
  refine lv_iconst (v := 0) hx hb dX6_digitsApart_7 (by decide +kernel) ?_
  refine lv_istore (lv' := [(5, .int 0), (4, .int x2), (3, .int x1), (2, .int 0), (0, .int x1), (1, .int x2)]) hx hb dX6_digitsApart_8 hl (by decide +kernel) rfl (fun ls hl => ?_)
  have cut_1 : ∀ (n : Nat) (y_2 : Int32) (y_3 : Int32) (y_4 : Int32) (y_5 : Int32) (H : Heap) (locs : List Loc) (ls : Array Slot), 5 - y_2.toInt ≤ (n : Int) → (0 ≤ y_2.toInt ∧ y_2.toInt ≤ 5) → va_P (dC, dI) vwCl [] H → va_S A s.heap H locs → lv_has ls 6 [(5, .int y_2), (2, .int y_3), (3, .int y_4), (4, .int y_5), (0, .int x1), (1, .int x2)] → W p l e (headSpec wsX6_digitsApart { frames := 0, cells := 0, slots := 0, locals := 0 }).room s m #[Value.int x1, Value.int x2] below meth c H locs 0 0 (MQ below (va_Qi (fun (r : Int32) (u : Unit) => True) (fun _ _ => True) A) #[Value.int x1, Value.int x2] s 0 0 A) (F0 m 10 ls []) := by
    intro n
    induction n using Nat.strongRecOn with
    | ind n ih =>
      intro y_2 y_3 y_4 y_5 H locs ls hm hy_2 hP hS hl
      refine lv_iload hx hb dX6_digitsApart_10 (lv_at hl 0 rfl) ?_
      refine lv_iconst (v := 5) hx hb dX6_digitsApart_12 (by decide +kernel) ?_
      refine lv_icmp_ge (tgt := 49) hx hb dX6_digitsApart_13 (by decide +kernel) (fun c_6 => ?_) (fun c_6 => ?_)
      · have dc_6 := c_le (a := 5) (b := y_2.toInt) (by decide +kernel) rfl c_6
        refine lv_iload_n hx hb dX6_digitsApart_49 rfl (lv_at hl 1 rfl) ?_
        exact W.iret (v := y_3) hx hb hr (fun t ht hW => ⟨⟨y_3, (), rfl, trivial, trivial⟩, hS.F ht⟩) hS.2.2 dX6_digitsApart_50
      · have dc_6 := c_nle (a := 5) (b := y_2.toInt) (by decide +kernel) rfl c_6
        refine lv_iload_n hx hb dX6_digitsApart_16 rfl (lv_at hl 2 rfl) ?_
        refine lv_bipush (v := 10) hx hb dX6_digitsApart_17 (by decide +kernel) ?_
        refine lv_irem hx hb dX6_digitsApart_19 (by decide +kernel) ?_
        refine lv_topi (fun x_7 ex_7 => ?_)
        clear ex_7
        refine lv_iload hx hb dX6_digitsApart_20 (lv_at hl 3 rfl) ?_
        refine lv_bipush (v := 10) hx hb dX6_digitsApart_22 (by decide +kernel) ?_
        refine lv_irem hx hb dX6_digitsApart_24 (by decide +kernel) ?_
        refine lv_topi (fun x_8 ex_8 => ?_)
        clear ex_8
        refine lv_icmp_eq (tgt := 31) hx hb dX6_digitsApart_25 (by decide +kernel) (fun c_9 => ?_) (fun c_9 => ?_)
        · have dc_9 := c_eq (a := x_7.toInt) (b := x_8.toInt) rfl rfl c_9
          refine lv_iload_n hx hb dX6_digitsApart_31 rfl (lv_at hl 2 rfl) ?_
          refine lv_bipush (v := 10) hx hb dX6_digitsApart_32 (by decide +kernel) ?_
          refine lv_idiv hx hb dX6_digitsApart_34 (by decide +kernel) ?_
          refine lv_topi (fun x_10 ex_10 => ?_)
          clear ex_10
          refine lv_istore_n (lv' := [(3, .int x_10), (5, .int y_2), (2, .int y_3), (4, .int y_5), (0, .int x1), (1, .int x2)]) hx hb dX6_digitsApart_35 rfl hl (by decide +kernel) rfl (fun ls hl => ?_)
          refine lv_iload hx hb dX6_digitsApart_36 (lv_at hl 3 rfl) ?_
          refine lv_bipush (v := 10) hx hb dX6_digitsApart_38 (by decide +kernel) ?_
          refine lv_idiv hx hb dX6_digitsApart_40 (by decide +kernel) ?_
          refine lv_topi (fun x_11 ex_11 => ?_)
          clear ex_11
          refine lv_istore (lv' := [(4, .int x_11), (3, .int x_10), (5, .int y_2), (2, .int y_3), (0, .int x1), (1, .int x2)]) hx hb dX6_digitsApart_41 hl (by decide +kernel) rfl (fun ls hl => ?_)
          obtain ⟨x_12, ex_12⟩ : ∃ zq : Int32, y_2 + 1 = zq := ⟨_, rfl⟩
          have hx_12 : x_12.toInt = y_2.toInt + 1 := (iv_to ex_12).symm.trans (ad_i rfl (by decide +kernel) (by omega) (by omega))
          refine lv_iinc (v := x_12) (lv' := [(5, .int x_12), (4, .int x_11), (3, .int x_10), (2, .int y_3), (0, .int x1), (1, .int x2)]) hx hb dX6_digitsApart_43 hl (k := 2) rfl ex_12 (by decide +kernel) rfl (fun ls hl => ?_)
          clear ex_12
          refine lv_goto (tgt := 10) hx hb dX6_digitsApart_46 (by decide +kernel) ?_
          exact ih (n - 1) (by omega) x_12 y_3 x_10 x_11 _ _ ls (by omega) (by omega) hP hS (lv_sub hl [0, 3, 2, 1, 4, 5] rfl)
        · have dc_9 := c_ne (a := x_7.toInt) (b := x_8.toInt) rfl rfl c_9
          obtain ⟨x_13, ex_13⟩ : ∃ zq : Int32, y_3 + 1 = zq := ⟨_, rfl⟩
          refine lv_iinc (v := x_13) (lv' := [(2, .int x_13), (5, .int y_2), (3, .int y_4), (4, .int y_5), (0, .int x1), (1, .int x2)]) hx hb dX6_digitsApart_28 hl (k := 1) rfl ex_13 (by decide +kernel) rfl (fun ls hl => ?_)
          clear ex_13
          refine lv_iload_n hx hb dX6_digitsApart_31 rfl (lv_at hl 2 rfl) ?_
          refine lv_bipush (v := 10) hx hb dX6_digitsApart_32 (by decide +kernel) ?_
          refine lv_idiv hx hb dX6_digitsApart_34 (by decide +kernel) ?_
          refine lv_topi (fun x_14 ex_14 => ?_)
          clear ex_14
          refine lv_istore_n (lv' := [(3, .int x_14), (2, .int x_13), (5, .int y_2), (4, .int y_5), (0, .int x1), (1, .int x2)]) hx hb dX6_digitsApart_35 rfl hl (by decide +kernel) rfl (fun ls hl => ?_)
          refine lv_iload hx hb dX6_digitsApart_36 (lv_at hl 3 rfl) ?_
          refine lv_bipush (v := 10) hx hb dX6_digitsApart_38 (by decide +kernel) ?_
          refine lv_idiv hx hb dX6_digitsApart_40 (by decide +kernel) ?_
          refine lv_topi (fun x_15 ex_15 => ?_)
          clear ex_15
          refine lv_istore (lv' := [(4, .int x_15), (3, .int x_14), (2, .int x_13), (5, .int y_2), (0, .int x1), (1, .int x2)]) hx hb dX6_digitsApart_41 hl (by decide +kernel) rfl (fun ls hl => ?_)
          obtain ⟨x_16, ex_16⟩ : ∃ zq : Int32, y_2 + 1 = zq := ⟨_, rfl⟩
          have hx_16 : x_16.toInt = y_2.toInt + 1 := (iv_to ex_16).symm.trans (ad_i rfl (by decide +kernel) (by omega) (by omega))
          refine lv_iinc (v := x_16) (lv' := [(5, .int x_16), (4, .int x_15), (3, .int x_14), (2, .int x_13), (0, .int x1), (1, .int x2)]) hx hb dX6_digitsApart_43 hl (k := 3) rfl ex_16 (by decide +kernel) rfl (fun ls hl => ?_)
          clear ex_16
          refine lv_goto (tgt := 10) hx hb dX6_digitsApart_46 (by decide +kernel) ?_
          exact ih (n - 1) (by omega) x_16 x_13 x_14 x_15 _ _ ls (by omega) (by omega) hP hS (lv_sub hl [0, 3, 2, 1, 4, 5] rfl)
  have kc_17 : (0 : Int32).toInt = 0 := by decide
  exact cut_1 6 0 0 x1 x2 _ _ ls (by omega) (by decide +kernel) hP hS (lv_sub hl [0, 3, 2, 1, 4, 5] rfl)
set_option maxHeartbeats 4000000 in
set_option maxRecDepth 100000 in
theorem c_X6_isAlike (l : Launch) (dC : Nat → ClassId) (dI : Nat → Nat → Nat) (sz : Nat) (cq : Nat → ClassId) (Z : oS) (gI : oInv Z) (o : Nat) (to : oty Z o 6) (a1 : Nat) (ta1 : oty Z a1 6) : Met l yX6_isAlike wsX6_isAlike ({ frames := 1, cells := 0, slots := 0, locals := 25 }) (va_Pc [.ref o, .ref a1] (pcW (dC, dI) (oT cq) (oW cq Z) sz)) (va_Qi (fun (r : Int32) (u : Unit) => (0 ≤ r.toInt ∧ r.toInt ≤ 1)) (fun _ _ => True) (va_A [] sz)) 0 0 (va_A [] sz) := by
  refine Met.ofW (cc := cX6_isAlike) (maxL := 2) (ret := (some .boolean)) (by decide +kernel) rfl ?_
  intro p e s m args below meth c s₁ B hml hv
  obtain ⟨rfl, hsz, hP, hK, hD0⟩ := hv
  have hx := B.exec
  have hb := B.bytes
  have hr := B.returns
  have hts := atoms_spec (ws := wsX6_isAlike) B.pre
  have hown : s.vm.findClass RX6 = some m.cls := findClass_of_methodNamed B.named
  have hlocks := B.notSynchronized
  subst hsz
  have hD := hD0
  generalize hAe : va_A [] s.heap.size = A at ⊢
  have hA : ∀ q : Nat, s.heap.size ≤ q → A q := fun q h => by rw [← hAe]; exact Or.inr h
  have hS : va_S A s.heap s.heap [] := va_S.rf
  have hP : va_P (dC, dI) vwCl (oW cq Z) s.heap := hP
  have hl := lv_entry ([.ref o, .ref a1]) (n := 2) (Nat.le_of_ble_eq_true rfl)
  rw [lg_entry_eq]
  generalize (lg_sl ([.ref o, .ref a1]) ++ List.replicate (2 - (lg_sl ([.ref o, .ref a1])).length) Slot.unset).toArray = ls at hl ⊢
  have hl : lv_has ls 2 [(0, .ref o), (1, .ref a1)] := hl
  refine lv_aload_n hx hb dX6_isAlike_0 rfl (lv_at hl 0 rfl) ?_
  obtain ⟨q_1, hq_1⟩ := og (cq := cq) to.1 (oE_6 to.2)
  refine va_get (D := (dC, dI)) (ci := 6) (v := .int (oI Z o 2)) (C := RX6) (T := TX6) (N := 6) hx hb hts in_wsX6_isAlike_X6 hown hK hP q_1 hq_1 rfl 2 (by decide +kernel) (hts (.fieldLink RX6 22 "ShipOffice$Man" "marks" "I") iw_X6_isAlike_1) (fun _ h9 => h9) rfl dX6_isAlike_1 ?_
  refine lv_topi (fun x_2 ex_2 => ?_)
  clear ex_2
  refine lv_aload_n hx hb dX6_isAlike_4 rfl (lv_at hl 1 rfl) ?_
  obtain ⟨q_3, hq_3⟩ := og (cq := cq) ta1.1 (oE_6 ta1.2)
  refine va_get (D := (dC, dI)) (ci := 6) (v := .int (oI Z a1 2)) (C := RX6) (T := TX6) (N := 6) hx hb hts in_wsX6_isAlike_X6 hown hK hP q_3 hq_3 rfl 2 (by decide +kernel) (hts (.fieldLink RX6 22 "ShipOffice$Man" "marks" "I") iw_X6_isAlike_1) (fun _ h9 => h9) rfl dX6_isAlike_5 ?_
  refine lv_topi (fun x_4 ex_4 => ?_)
  clear ex_4
  refine lv_icmp_eq (tgt := 37) hx hb dX6_isAlike_8 (by decide +kernel) (fun c_5 => ?_) (fun c_5 => ?_)
  · have dc_5 := c_eq (a := x_2.toInt) (b := x_4.toInt) rfl rfl c_5
    refine lv_iconst (v := 1) hx hb dX6_isAlike_37 (by decide +kernel) ?_
    refine lv_goto (tgt := 42) hx hb dX6_isAlike_38 (by decide +kernel) ?_
    exact W.zret (v := 1) hx hb hr rfl (fun t ht hW => ⟨⟨1, (), rfl, (by decide +kernel), trivial⟩, hS.F ht⟩) hS.2.2 dX6_isAlike_42
  · have dc_5 := c_ne (a := x_2.toInt) (b := x_4.toInt) rfl rfl c_5
    refine lv_aload_n hx hb dX6_isAlike_11 rfl (lv_at hl 0 rfl) ?_
    refine va_get (D := (dC, dI)) (ci := 6) (v := .int (oI Z o 1)) (C := RX6) (T := TX6) (N := 6) hx hb hts in_wsX6_isAlike_X6 hown hK hP q_1 hq_1 rfl 1 (by decide +kernel) (hts (.fieldLink RX6 19 "ShipOffice$Man" "name" "I") iw_X6_isAlike_2) (fun _ h9 => h9) rfl dX6_isAlike_12 ?_
    refine lv_topi (fun x_6 ex_6 => ?_)
    clear ex_6
    refine lv_aload_n hx hb dX6_isAlike_15 rfl (lv_at hl 1 rfl) ?_
    refine va_get (D := (dC, dI)) (ci := 6) (v := .int (oI Z a1 1)) (C := RX6) (T := TX6) (N := 6) hx hb hts in_wsX6_isAlike_X6 hown hK hP q_3 hq_3 rfl 1 (by decide +kernel) (hts (.fieldLink RX6 19 "ShipOffice$Man" "name" "I") iw_X6_isAlike_2) (fun _ h9 => h9) rfl dX6_isAlike_16 ?_
    refine lv_topi (fun x_7 ex_7 => ?_)
    clear ex_7
    refine lv_icmp_ne (tgt := 41) hx hb dX6_isAlike_19 (by decide +kernel) (fun c_8 => ?_) (fun c_8 => ?_)
    · have dc_8 := c_ne (a := x_6.toInt) (b := x_7.toInt) rfl rfl c_8
      refine lv_iconst (v := 0) hx hb dX6_isAlike_41 (by decide +kernel) ?_
      exact W.zret (v := 0) hx hb hr rfl (fun t ht hW => ⟨⟨0, (), rfl, (by decide +kernel), trivial⟩, hS.F ht⟩) hS.2.2 dX6_isAlike_42
    · have dc_8 := c_eq (a := x_6.toInt) (b := x_7.toInt) rfl rfl c_8
      refine lv_aload_n hx hb dX6_isAlike_22 rfl (lv_at hl 0 rfl) ?_
      refine va_get (D := (dC, dI)) (ci := 6) (v := .int (oI Z o 2)) (C := RX6) (T := TX6) (N := 6) hx hb hts in_wsX6_isAlike_X6 hown hK hP q_1 hq_1 rfl 2 (by decide +kernel) (hts (.fieldLink RX6 22 "ShipOffice$Man" "marks" "I") iw_X6_isAlike_1) (fun _ h9 => h9) rfl dX6_isAlike_23 ?_
      refine lv_topi (fun x_9 ex_9 => ?_)
      clear ex_9
      refine lv_aload_n hx hb dX6_isAlike_26 rfl (lv_at hl 1 rfl) ?_
      refine va_get (D := (dC, dI)) (ci := 6) (v := .int (oI Z a1 2)) (C := RX6) (T := TX6) (N := 6) hx hb hts in_wsX6_isAlike_X6 hown hK hP q_3 hq_3 rfl 2 (by decide +kernel) (hts (.fieldLink RX6 22 "ShipOffice$Man" "marks" "I") iw_X6_isAlike_1) (fun _ h9 => h9) rfl dX6_isAlike_27 ?_
      refine lv_topi (fun x_10 ex_10 => ?_)
      clear ex_10
      have hFc : ∀ q, va_A [] s.heap.size q → A q := pu_free hS hA
      have hPc := hP.sub (ws' := []) [] rfl
      have hDc := hD.sub (ws' := []) [] (by decide +kernel) rfl
      have hKc := hK.sub (tys' := []) [] rfl
      refine va_calli (va_runS (As := [.int x_9, .int x_10]) (rest := []) ⟨hx, hb, hml, hown, hts⟩ (c_X6_digitsApart l dC dI s.heap.size  x_9 x_10) (va_cwS 2 hts gX6_isAlike_X6_digitsApart rfl rfl rfl (by decide +kernel) ⟨(Nat.le_of_ble_eq_true rfl), (Nat.le_of_ble_eq_true rfl)⟩) (pr_S hPc hKc hDc) rfl rfl hl.1 rfl (lv_room (Nat.le_of_ble_eq_true rfl)) dX6_isAlike_30 ⟨(Nat.le_of_ble_eq_true rfl), (Nat.le_of_ble_eq_true rfl)⟩) hS (fun q _ h => hFc q h) hFc (fun r_12 u t H locs ht hvm w_11 hB hz1 hk1 hS => ?_)
      have hP := pu_keep hP hk1
      clear hk1 hz1 hvm hB ht hFc hPc hDc hKc
      refine lv_iconst (v := 1) hx hb dX6_isAlike_33 (by decide +kernel) ?_
      refine lv_icmp_gt (tgt := 41) hx hb dX6_isAlike_34 (by decide +kernel) (fun c_13 => ?_) (fun c_13 => ?_)
      · have dc_13 := c_lt (a := 1) (b := r_12.toInt) (by decide +kernel) rfl c_13
        refine lv_iconst (v := 0) hx hb dX6_isAlike_41 (by decide +kernel) ?_
        exact W.zret (v := 0) hx hb hr rfl (fun t ht hW => ⟨⟨0, (), rfl, (by decide +kernel), trivial⟩, hS.F ht⟩) hS.2.2 dX6_isAlike_42
      · have dc_13 := c_nlt (a := 1) (b := r_12.toInt) (by decide +kernel) rfl c_13
        refine lv_iconst (v := 1) hx hb dX6_isAlike_37 (by decide +kernel) ?_
        refine lv_goto (tgt := 42) hx hb dX6_isAlike_38 (by decide +kernel) ?_
        exact W.zret (v := 1) hx hb hr rfl (fun t ht hW => ⟨⟨1, (), rfl, (by decide +kernel), trivial⟩, hS.F ht⟩) hS.2.2 dX6_isAlike_42
set_option maxHeartbeats 4000000 in
set_option maxRecDepth 100000 in
theorem c_X0_uses (l : Launch) (dC : Nat → ClassId) (dI : Nat → Nat → Nat) (sz : Nat) (cq : Nat → ClassId) (Z : oS) (gI : oInv Z) (o : Nat) (to : oty Z o 0) (x1 : Int32) : Met l yX0_uses wsX0_uses ({ frames := 0, cells := 0, slots := 0, locals := 0 }) (va_Pc [.ref o, .int x1] (pcW (dC, dI) (oT cq) (oW cq Z) sz)) (va_Qi (fun (r : Int32) (u : Unit) => (0 ≤ r.toInt ∧ r.toInt ≤ 1)) (fun _ _ => True) (va_A [] sz)) 0 0 (va_A [] sz) := by
  refine Met.ofW (cc := cX0_uses) (maxL := 6) (ret := (some .boolean)) (by decide +kernel) rfl ?_
  intro p e s m args below meth c s₁ B hml hv
  obtain ⟨rfl, hsz, hP, hK, hD0⟩ := hv
  have hx := B.exec
  have hb := B.bytes
  have hr := B.returns
  have hts := atoms_spec (ws := wsX0_uses) B.pre
  have hown : s.vm.findClass RX0 = some m.cls := findClass_of_methodNamed B.named
  have hlocks := B.notSynchronized
  subst hsz
  have hD := hD0
  generalize hAe : va_A [] s.heap.size = A at ⊢
  have hA : ∀ q : Nat, s.heap.size ≤ q → A q := fun q h => by rw [← hAe]; exact Or.inr h
  have hS : va_S A s.heap s.heap [] := va_S.rf
  have hP : va_P (dC, dI) vwCl (oW cq Z) s.heap := hP
  have hl := lv_entry ([.ref o, .int x1]) (n := 6) (Nat.le_of_ble_eq_true rfl)
  rw [lg_entry_eq]
  generalize (lg_sl ([.ref o, .int x1]) ++ List.replicate (6 - (lg_sl ([.ref o, .int x1])).length) Slot.unset).toArray = ls at hl ⊢
  have hl : lv_has ls 6 [(0, .ref o), (1, .int x1)] := hl
  refine lv_aload_n hx hb dX0_uses_0 rfl (lv_at hl 0 rfl) ?_
  obtain ⟨q_1, hq_1⟩ := og (cq := cq) to.1 (oE_0 to.2)
  obtain ⟨b_2, hb_2⟩ := oInv.nn (i := 3) gI to rfl
  refine va_get (D := (dC, dI)) (ci := 0) (v := .ref b_2) (C := RX0) (T := TX0) (N := 5) hx hb hts in_wsX0_uses_X0 hown hK hP q_1 hq_1 rfl 3 (by decide +kernel) (hts (.fieldLink RX0 16 "ShipOffice$Act" "code" "[I") iw_X0_uses_1) (fun _ h9 => h9) (o_rd hb_2) dX0_uses_1 ?_
  obtain ⟨nb_2, hnb_2, tb_2⟩ : ∃ n, (0 ≤ n ∧ n ≤ 60) ∧ oty Z b_2 (300 + n) := ar_len (B := 300) (oInv.rd2 (lo := 300) (hi := 360) gI to.2 hb_2 rfl rfl) (by decide +kernel)
  refine lv_astore_n (lv' := [(2, .ref b_2), (0, .ref o), (1, .int x1)]) hx hb dX0_uses_4 rfl hl (by decide +kernel) rfl (fun ls hl => ?_)
  refine lv_aload_n hx hb dX0_uses_5 rfl (lv_at hl 0 rfl) ?_
  obtain ⟨q_3, hq_3⟩ := og (cq := cq) tb_2.1 (oE_ar (n := nb_2) tb_2.2 (by omega))
  refine va_alen (v := nI nb_2) hx hb hK hP q_3 0 hq_3 rfl rfl dX0_uses_6 ?_
  refine lv_topi (fun x_4 ex_4 => ?_)
  have hx_4 : x_4.toInt = (nb_2 : Int) := (iv_to ex_4).trans (nI_toInt (by omega))
  clear ex_4
  refine lv_istore_n (lv' := [(3, .int x_4), (2, .ref b_2), (0, .ref o), (1, .int x1)]) hx hb dX0_uses_7 rfl hl (by decide +kernel) rfl (fun ls hl => ?_)
  refine lv_iconst (v := 0) hx hb dX0_uses_8 (by decide +kernel) ?_
  refine lv_istore (lv' := [(4, .int 0), (3, .int x_4), (2, .ref b_2), (0, .ref o), (1, .int x1)]) hx hb dX0_uses_9 hl (by decide +kernel) rfl (fun ls hl => ?_)
  have cut_5 : ∀ (n : Nat) (y_6 : Int32) (H : Heap) (locs : List Loc) (ls : Array Slot), 60 - y_6.toInt ≤ (n : Int) → (0 ≤ y_6.toInt ∧ y_6.toInt ≤ 60) → va_P (dC, dI) vwCl (oW cq Z) H → va_S A s.heap H locs → lv_has ls 6 [(4, .int y_6), (3, .int x_4), (2, .ref b_2), (0, .ref o), (1, .int x1)] → W p l e (headSpec wsX0_uses { frames := 0, cells := 0, slots := 0, locals := 0 }).room s m #[Value.ref o, Value.int x1] below meth c H locs 0 0 (MQ below (va_Qi (fun (r : Int32) (u : Unit) => (0 ≤ r.toInt ∧ r.toInt ≤ 1)) (fun _ _ => True) A) #[Value.ref o, Value.int x1] s 0 0 A) (F0 m 11 ls []) := by
    intro n
    induction n using Nat.strongRecOn with
    | ind n ih =>
      intro y_6 H locs ls hm hy_6 hP hS hl
      refine lv_iload hx hb dX0_uses_11 (lv_at hl 0 rfl) ?_
      refine lv_iload_n hx hb dX0_uses_13 rfl (lv_at hl 1 rfl) ?_
      refine lv_icmp_ge (tgt := 39) hx hb dX0_uses_14 (by decide +kernel) (fun c_7 => ?_) (fun c_7 => ?_)
      · have dc_7 := c_le (a := x_4.toInt) (b := y_6.toInt) rfl rfl c_7
        refine lv_iconst (v := 0) hx hb dX0_uses_39 (by decide +kernel) ?_
        exact W.zret (v := 0) hx hb hr rfl (fun t ht hW => ⟨⟨0, (), rfl, (by decide +kernel), trivial⟩, hS.F ht⟩) hS.2.2 dX0_uses_40
      · have dc_7 := c_nle (a := x_4.toInt) (b := y_6.toInt) rfl rfl c_7
        refine lv_aload_n hx hb dX0_uses_17 rfl (lv_at hl 2 rfl) ?_
        refine lv_iload hx hb dX0_uses_18 (lv_at hl 0 rfl) ?_
        obtain ⟨q_8, hq_8⟩ := og (cq := cq) tb_2.1 (oE_ar (n := nb_2) tb_2.2 (by omega))
        refine va_iald hx hb hK hP q_8 0 hq_8 rfl (vp_in_iff.mpr (by omega)) dX0_uses_20 ?_
        refine lv_topi (fun x_9 ex_9 => ?_)
        clear ex_9
        refine lv_istore (lv' := [(5, .int x_9), (4, .int y_6), (3, .int x_4), (2, .ref b_2), (0, .ref o), (1, .int x1)]) hx hb dX0_uses_21 hl (by decide +kernel) rfl (fun ls hl => ?_)
        refine lv_iload hx hb dX0_uses_23 (lv_at hl 0 rfl) ?_
        refine lv_iconst (v := (-1)) hx hb dX0_uses_25 (by decide +kernel) ?_
        refine lv_iload_n hx hb dX0_uses_26 rfl (lv_at hl 5 rfl) ?_
        refine lv_isub hx hb dX0_uses_27 ?_
        refine lv_topi (fun x_10 ex_10 => ?_)
        clear ex_10
        refine lv_icmp_ne (tgt := 33) hx hb dX0_uses_28 (by decide +kernel) (fun c_11 => ?_) (fun c_11 => ?_)
        · have dc_11 := c_ne (a := x_9.toInt) (b := x_10.toInt) rfl rfl c_11
          obtain ⟨x_12, ex_12⟩ : ∃ zq : Int32, y_6 + 1 = zq := ⟨_, rfl⟩
          have hx_12 : x_12.toInt = y_6.toInt + 1 := (iv_to ex_12).symm.trans (ad_i rfl (by decide +kernel) (by omega) (by omega))
          refine lv_iinc (v := x_12) (lv' := [(4, .int x_12), (5, .int x_9), (3, .int x_4), (2, .ref b_2), (0, .ref o), (1, .int x1)]) hx hb dX0_uses_33 hl (k := 1) rfl ex_12 (by decide +kernel) rfl (fun ls hl => ?_)
          clear ex_12
          refine lv_goto (tgt := 11) hx hb dX0_uses_36 (by decide +kernel) ?_
          exact ih (n - 1) (by omega) x_12 _ _ ls (by omega) (by omega) hP hS (lv_sub hl [0, 2, 3, 4, 5] rfl)
        · have dc_11 := c_eq (a := x_9.toInt) (b := x_10.toInt) rfl rfl c_11
          refine lv_iconst (v := 1) hx hb dX0_uses_31 (by decide +kernel) ?_
          exact W.zret (v := 1) hx hb hr rfl (fun t ht hW => ⟨⟨1, (), rfl, (by decide +kernel), trivial⟩, hS.F ht⟩) hS.2.2 dX0_uses_32
  have kc_13 : (0 : Int32).toInt = 0 := by decide
  exact cut_5 61 0 _ _ ls (by omega) (by decide +kernel) hP hS (lv_sub hl [0, 1, 2, 3, 4] rfl)
set_option maxHeartbeats 4000000 in
set_option maxRecDepth 100000 in
theorem c_X0_held (l : Launch) (dC : Nat → ClassId) (dI : Nat → Nat → Nat) (sz : Nat) (x1 : Int64) : Met l yX0_held wsX0_held ({ frames := 0, cells := 0, slots := 0, locals := 0 }) (va_Pc [.long x1] (pcW (dC, dI) [] [] sz)) (va_Qi (fun (r : Int32) (u : Unit) => True) (fun _ _ => True) (va_A [] sz)) 0 0 (va_A [] sz) := by
  refine Met.ofW (cc := cX0_held) (maxL := 2) (ret := (some .int)) (by decide +kernel) rfl ?_
  intro p e s m args below meth c s₁ B hml hv
  obtain ⟨rfl, hsz, hP, hK, hD0⟩ := hv
  have hx := B.exec
  have hb := B.bytes
  have hr := B.returns
  have hts := atoms_spec (ws := wsX0_held) B.pre
  have hown : s.vm.findClass RX0 = some m.cls := findClass_of_methodNamed B.named
  have hlocks := B.notSynchronized
  subst hsz
  have hD := hD0
  generalize hAe : va_A [] s.heap.size = A at ⊢
  have hA : ∀ q : Nat, s.heap.size ≤ q → A q := fun q h => by rw [← hAe]; exact Or.inr h
  have hS : va_S A s.heap s.heap [] := va_S.rf
  have hP : va_P (dC, dI) vwCl [] s.heap := hP
  have hl := lv_entry ([.long x1]) (n := 2) (Nat.le_of_ble_eq_true rfl)
  rw [lg_entry_eq]
  generalize (lg_sl ([.long x1]) ++ List.replicate (2 - (lg_sl ([.long x1])).length) Slot.unset).toArray = ls at hl ⊢
  have hl : lv_has ls 2 [(0, .long x1)] := hl
  refine lv_lload_n hx hb dX0_held_0 rfl (lv_at hl 0 rfl) ?_
  refine lv_ldc2 (v := 1000000000) hx hb hown (hts (.constantLong RX0 44 (1000000000)) (by decide +kernel)) dX0_held_1 ?_
  refine W.lcmp hx hb dX0_held_4 ?_
  refine lv_topi (fun x_1 ex_1 => ?_)
  clear ex_1
  refine lv_if_le (tgt := 11) hx hb dX0_held_5 (by decide +kernel) (fun c_2 => ?_) (fun c_2 => ?_)
  · have dc_2 := c_le (a := x_1.toInt) (b := 0) rfl (by decide +kernel) c_2
    refine lv_lload_n hx hb dX0_held_11 rfl (lv_at hl 0 rfl) ?_
    refine lv_ldc2 (v := (-1000000000)) hx hb hown (hts (.constantLong RX0 47 (-1000000000)) (by decide +kernel)) dX0_held_12 ?_
    refine W.lcmp hx hb dX0_held_15 ?_
    refine lv_topi (fun x_3 ex_3 => ?_)
    clear ex_3
    refine lv_if_ge (tgt := 24) hx hb dX0_held_16 (by decide +kernel) (fun c_4 => ?_) (fun c_4 => ?_)
    · have dc_4 := c_le (a := 0) (b := x_3.toInt) (by decide +kernel) rfl c_4
      refine lv_lload_n hx hb dX0_held_24 rfl (lv_at hl 0 rfl) ?_
      refine lv_l2i (v := (x1 : Int64).toInt32) hx hb dX0_held_25 rfl ?_
      refine lv_topi (fun x_5 ex_5 => ?_)
      clear ex_5
      exact W.iret (v := x_5) hx hb hr (fun t ht hW => ⟨⟨x_5, (), rfl, trivial, trivial⟩, hS.F ht⟩) hS.2.2 dX0_held_26
    · have dc_4 := c_nle (a := 0) (b := x_3.toInt) (by decide +kernel) rfl c_4
      refine lv_ldc (v := (-1000000000)) hx hb hown (hts (.constant RX0 49 (-1000000000)) (by decide +kernel)) dX0_held_19 ?_
      refine lv_goto (tgt := 26) hx hb dX0_held_21 (by decide +kernel) ?_
      exact W.iret (v := (-1000000000)) hx hb hr (fun t ht hW => ⟨⟨(-1000000000), (), rfl, trivial, trivial⟩, hS.F ht⟩) hS.2.2 dX0_held_26
  · have dc_2 := c_nle (a := x_1.toInt) (b := 0) rfl (by decide +kernel) c_2
    refine lv_ldc (v := 1000000000) hx hb hown (hts (.constant RX0 46 (1000000000)) (by decide +kernel)) dX0_held_8 ?_
    exact W.iret (v := 1000000000) hx hb hr (fun t ht hW => ⟨⟨1000000000, (), rfl, trivial, trivial⟩, hS.F ht⟩) hS.2.2 dX0_held_10
set_option maxHeartbeats 4000000 in
set_option maxRecDepth 100000 in
theorem c_X0_joined (l : Launch) (dC : Nat → ClassId) (dI : Nat → Nat → Nat) (sz : Nat) (x1 : Int64) (x2 : Int64) (x3 : Int32) : Met l yX0_joined wsX0_joined ({ frames := 1, cells := 0, slots := 0, locals := 21 }) (va_Pc [.long x1, .long x2, .int x3] (pcW (dC, dI) [] [] sz)) (va_Qi (fun (r : Int32) (u : Unit) => True) (fun _ _ => True) (va_A [] sz)) 0 0 (va_A [] sz) := by
  refine Met.ofW (cc := cX0_joined) (maxL := 5) (ret := (some .int)) (by decide +kernel) rfl ?_
  intro p e s m args below meth c s₁ B hml hv
  obtain ⟨rfl, hsz, hP, hK, hD0⟩ := hv
  have hx := B.exec
  have hb := B.bytes
  have hr := B.returns
  have hts := atoms_spec (ws := wsX0_joined) B.pre
  have hown : s.vm.findClass RX0 = some m.cls := findClass_of_methodNamed B.named
  have hlocks := B.notSynchronized
  subst hsz
  have hD := hD0
  generalize hAe : va_A [] s.heap.size = A at ⊢
  have hA : ∀ q : Nat, s.heap.size ≤ q → A q := fun q h => by rw [← hAe]; exact Or.inr h
  have hS : va_S A s.heap s.heap [] := va_S.rf
  have hP : va_P (dC, dI) vwCl [] s.heap := hP
  have hl := lv_entry ([.long x1, .long x2, .int x3]) (n := 5) (Nat.le_of_ble_eq_true rfl)
  rw [lg_entry_eq]
  generalize (lg_sl ([.long x1, .long x2, .int x3]) ++ List.replicate (5 - (lg_sl ([.long x1, .long x2, .int x3])).length) Slot.unset).toArray = ls at hl ⊢
  have hl : lv_has ls 5 [(0, .long x1), (2, .long x2), (4, .int x3)] := hl
  refine lv_iload hx hb dX0_joined_0 (lv_at hl 2 rfl) ?_
  by_cases q_1 : x3 = 0
  · refine lv_topi (fun y ey => ?_)
    obtain rfl : y = 0 := ey.trans q_1
    refine lv_tableIn (x := 0) (off := 38) (tgt := 40) hx hb dX0_joined_2 (by decide +kernel) (by decide +kernel) (by decide +kernel) (by decide +kernel) ?_
    refine lv_lload_n hx hb dX0_joined_40 rfl (lv_at hl 0 rfl) ?_
    refine lv_lload_n hx hb dX0_joined_41 rfl (lv_at hl 1 rfl) ?_
    refine lv_ladd hx hb dX0_joined_42 ?_
    have hFc : ∀ q, va_A [] s.heap.size q → A q := pu_free hS hA
    have hPc := hP.sub (ws' := []) [] rfl
    have hDc := hD.sub (ws' := []) [] (by decide +kernel) rfl
    have hKc := hK.sub (tys' := []) [] rfl
    refine va_calli (va_runS (As := [.long (x1 + x2)]) (rest := []) ⟨hx, hb, hml, hown, hts⟩ (c_X0_held l dC dI s.heap.size  (x1 + x2)) (va_cwS 1 hts gX0_joined_X0_held rfl rfl rfl (by decide +kernel) ⟨(Nat.le_of_ble_eq_true rfl), (Nat.le_of_ble_eq_true rfl)⟩) (pr_S hPc hKc hDc) rfl rfl hl.1 rfl (lv_room (Nat.le_of_ble_eq_true rfl)) dX0_joined_43 ⟨(Nat.le_of_ble_eq_true rfl), (Nat.le_of_ble_eq_true rfl)⟩) hS (fun q _ h => hFc q h) hFc (fun r_3 u t H locs ht hvm w_2 hB hz1 hk1 hS => ?_)
    have hP := pu_keep hP hk1
    clear hk1 hz1 hvm hB ht hFc hPc hDc hKc
    exact W.iret (v := r_3) hx hb hr (fun t ht hW => ⟨⟨r_3, (), rfl, trivial, trivial⟩, hS.F ht⟩) hS.2.2 dX0_joined_46
  have n_4 := c_ne (a := x3.toInt) (b := 0) rfl (by decide +kernel) q_1
  by_cases q_5 : x3 = 1
  · refine lv_topi (fun y ey => ?_)
    obtain rfl : y = 1 := ey.trans q_5
    refine lv_tableIn (x := 1) (off := 45) (tgt := 47) hx hb dX0_joined_2 (by decide +kernel) (by decide +kernel) (by decide +kernel) (by decide +kernel) ?_
    refine lv_lload_n hx hb dX0_joined_47 rfl (lv_at hl 0 rfl) ?_
    refine lv_lload_n hx hb dX0_joined_48 rfl (lv_at hl 1 rfl) ?_
    refine lv_lsub hx hb dX0_joined_49 ?_
    have hFc : ∀ q, va_A [] s.heap.size q → A q := pu_free hS hA
    have hPc := hP.sub (ws' := []) [] rfl
    have hDc := hD.sub (ws' := []) [] (by decide +kernel) rfl
    have hKc := hK.sub (tys' := []) [] rfl
    refine va_calli (va_runS (As := [.long (x1 - x2)]) (rest := []) ⟨hx, hb, hml, hown, hts⟩ (c_X0_held l dC dI s.heap.size  (x1 - x2)) (va_cwS 1 hts gX0_joined_X0_held rfl rfl rfl (by decide +kernel) ⟨(Nat.le_of_ble_eq_true rfl), (Nat.le_of_ble_eq_true rfl)⟩) (pr_S hPc hKc hDc) rfl rfl hl.1 rfl (lv_room (Nat.le_of_ble_eq_true rfl)) dX0_joined_50 ⟨(Nat.le_of_ble_eq_true rfl), (Nat.le_of_ble_eq_true rfl)⟩) hS (fun q _ h => hFc q h) hFc (fun r_7 u t H locs ht hvm w_6 hB hz1 hk1 hS => ?_)
    have hP := pu_keep hP hk1
    clear hk1 hz1 hvm hB ht hFc hPc hDc hKc
    exact W.iret (v := r_7) hx hb hr (fun t ht hW => ⟨⟨r_7, (), rfl, trivial, trivial⟩, hS.F ht⟩) hS.2.2 dX0_joined_53
  have n_8 := c_ne (a := x3.toInt) (b := 1) rfl (by decide +kernel) q_5
  by_cases q_9 : x3 = 2
  · refine lv_topi (fun y ey => ?_)
    obtain rfl : y = 2 := ey.trans q_9
    refine lv_tableIn (x := 2) (off := 52) (tgt := 54) hx hb dX0_joined_2 (by decide +kernel) (by decide +kernel) (by decide +kernel) (by decide +kernel) ?_
    refine lv_lload_n hx hb dX0_joined_54 rfl (lv_at hl 0 rfl) ?_
    refine lv_lload_n hx hb dX0_joined_55 rfl (lv_at hl 1 rfl) ?_
    refine lv_lmul hx hb dX0_joined_56 ?_
    have hFc : ∀ q, va_A [] s.heap.size q → A q := pu_free hS hA
    have hPc := hP.sub (ws' := []) [] rfl
    have hDc := hD.sub (ws' := []) [] (by decide +kernel) rfl
    have hKc := hK.sub (tys' := []) [] rfl
    refine va_calli (va_runS (As := [.long (x1 * x2)]) (rest := []) ⟨hx, hb, hml, hown, hts⟩ (c_X0_held l dC dI s.heap.size  (x1 * x2)) (va_cwS 1 hts gX0_joined_X0_held rfl rfl rfl (by decide +kernel) ⟨(Nat.le_of_ble_eq_true rfl), (Nat.le_of_ble_eq_true rfl)⟩) (pr_S hPc hKc hDc) rfl rfl hl.1 rfl (lv_room (Nat.le_of_ble_eq_true rfl)) dX0_joined_57 ⟨(Nat.le_of_ble_eq_true rfl), (Nat.le_of_ble_eq_true rfl)⟩) hS (fun q _ h => hFc q h) hFc (fun r_11 u t H locs ht hvm w_10 hB hz1 hk1 hS => ?_)
    have hP := pu_keep hP hk1
    clear hk1 hz1 hvm hB ht hFc hPc hDc hKc
    exact W.iret (v := r_11) hx hb hr (fun t ht hW => ⟨⟨r_11, (), rfl, trivial, trivial⟩, hS.F ht⟩) hS.2.2 dX0_joined_60
  have n_12 := c_ne (a := x3.toInt) (b := 2) rfl (by decide +kernel) q_9
  by_cases q_13 : x3 = 3
  · refine lv_topi (fun y ey => ?_)
    obtain rfl : y = 3 := ey.trans q_13
    refine lv_tableIn (x := 3) (off := 59) (tgt := 61) hx hb dX0_joined_2 (by decide +kernel) (by decide +kernel) (by decide +kernel) (by decide +kernel) ?_
    refine lv_lload_n hx hb dX0_joined_61 rfl (lv_at hl 1 rfl) ?_
    refine lv_lconst (v := 0) hx hb dX0_joined_62 (by decide +kernel) ?_
    refine W.lcmp hx hb dX0_joined_63 ?_
    refine lv_topi (fun x_14 ex_14 => ?_)
    refine lv_if_ne (tgt := 71) hx hb dX0_joined_64 (by decide +kernel) (fun c_15 => ?_) (fun c_15 => ?_)
    · have dc_15 := c_ne (a := x_14.toInt) (b := 0) rfl (by decide +kernel) c_15
      refine lv_lload_n hx hb dX0_joined_71 rfl (lv_at hl 0 rfl) ?_
      refine lv_lload_n hx hb dX0_joined_72 rfl (lv_at hl 1 rfl) ?_
      refine lv_ldiv hx hb dX0_joined_73 (fun h => c_15 (ex_14.trans ((lg_cmp_eq _ _).mpr h))) ?_
      have hFc : ∀ q, va_A [] s.heap.size q → A q := pu_free hS hA
      have hPc := hP.sub (ws' := []) [] rfl
      have hDc := hD.sub (ws' := []) [] (by decide +kernel) rfl
      have hKc := hK.sub (tys' := []) [] rfl
      refine va_calli (va_runS (As := [.long (x1 / x2)]) (rest := []) ⟨hx, hb, hml, hown, hts⟩ (c_X0_held l dC dI s.heap.size  (x1 / x2)) (va_cwS 1 hts gX0_joined_X0_held rfl rfl rfl (by decide +kernel) ⟨(Nat.le_of_ble_eq_true rfl), (Nat.le_of_ble_eq_true rfl)⟩) (pr_S hPc hKc hDc) rfl rfl hl.1 rfl (lv_room (Nat.le_of_ble_eq_true rfl)) dX0_joined_74 ⟨(Nat.le_of_ble_eq_true rfl), (Nat.le_of_ble_eq_true rfl)⟩) hS (fun q _ h => hFc q h) hFc (fun r_17 u t H locs ht hvm w_16 hB hz1 hk1 hS => ?_)
      have hP := pu_keep hP hk1
      clear hk1 hz1 hvm hB ht hFc hPc hDc hKc
      exact W.iret (v := r_17) hx hb hr (fun t ht hW => ⟨⟨r_17, (), rfl, trivial, trivial⟩, hS.F ht⟩) hS.2.2 dX0_joined_77
    · have dc_15 := c_eq (a := x_14.toInt) (b := 0) rfl (by decide +kernel) c_15
      refine lv_iconst (v := 0) hx hb dX0_joined_67 (by decide +kernel) ?_
      refine lv_goto (tgt := 77) hx hb dX0_joined_68 (by decide +kernel) ?_
      exact W.iret (v := 0) hx hb hr (fun t ht hW => ⟨⟨0, (), rfl, trivial, trivial⟩, hS.F ht⟩) hS.2.2 dX0_joined_77
  have n_18 := c_ne (a := x3.toInt) (b := 3) rfl (by decide +kernel) q_13
  by_cases q_19 : x3 = 4
  · refine lv_topi (fun y ey => ?_)
    obtain rfl : y = 4 := ey.trans q_19
    refine lv_tableIn (x := 4) (off := 76) (tgt := 78) hx hb dX0_joined_2 (by decide +kernel) (by decide +kernel) (by decide +kernel) (by decide +kernel) ?_
    refine lv_lload_n hx hb dX0_joined_78 rfl (lv_at hl 0 rfl) ?_
    refine lv_lload_n hx hb dX0_joined_79 rfl (lv_at hl 1 rfl) ?_
    refine W.lcmp hx hb dX0_joined_80 ?_
    refine lv_topi (fun x_20 ex_20 => ?_)
    refine lv_if_ge (tgt := 88) hx hb dX0_joined_81 (by decide +kernel) (fun c_21 => ?_) (fun c_21 => ?_)
    · have dc_21 := c_le (a := 0) (b := x_20.toInt) (by decide +kernel) rfl c_21
      refine lv_iconst (v := 0) hx hb dX0_joined_88 (by decide +kernel) ?_
      exact W.iret (v := 0) hx hb hr (fun t ht hW => ⟨⟨0, (), rfl, trivial, trivial⟩, hS.F ht⟩) hS.2.2 dX0_joined_89
    · have dc_21 := c_nle (a := 0) (b := x_20.toInt) (by decide +kernel) rfl c_21
      refine lv_iconst (v := 1) hx hb dX0_joined_84 (by decide +kernel) ?_
      refine lv_goto (tgt := 89) hx hb dX0_joined_85 (by decide +kernel) ?_
      exact W.iret (v := 1) hx hb hr (fun t ht hW => ⟨⟨1, (), rfl, trivial, trivial⟩, hS.F ht⟩) hS.2.2 dX0_joined_89
  have n_22 := c_ne (a := x3.toInt) (b := 4) rfl (by decide +kernel) q_19
  by_cases q_23 : x3 = 5
  · refine lv_topi (fun y ey => ?_)
    obtain rfl : y = 5 := ey.trans q_23
    refine lv_tableIn (x := 5) (off := 88) (tgt := 90) hx hb dX0_joined_2 (by decide +kernel) (by decide +kernel) (by decide +kernel) (by decide +kernel) ?_
    refine lv_lload_n hx hb dX0_joined_90 rfl (lv_at hl 0 rfl) ?_
    refine lv_lload_n hx hb dX0_joined_91 rfl (lv_at hl 1 rfl) ?_
    refine W.lcmp hx hb dX0_joined_92 ?_
    refine lv_topi (fun x_24 ex_24 => ?_)
    refine lv_if_ne (tgt := 100) hx hb dX0_joined_93 (by decide +kernel) (fun c_25 => ?_) (fun c_25 => ?_)
    · have dc_25 := c_ne (a := x_24.toInt) (b := 0) rfl (by decide +kernel) c_25
      refine lv_iconst (v := 0) hx hb dX0_joined_100 (by decide +kernel) ?_
      exact W.iret (v := 0) hx hb hr (fun t ht hW => ⟨⟨0, (), rfl, trivial, trivial⟩, hS.F ht⟩) hS.2.2 dX0_joined_101
    · have dc_25 := c_eq (a := x_24.toInt) (b := 0) rfl (by decide +kernel) c_25
      refine lv_iconst (v := 1) hx hb dX0_joined_96 (by decide +kernel) ?_
      refine lv_goto (tgt := 101) hx hb dX0_joined_97 (by decide +kernel) ?_
      exact W.iret (v := 1) hx hb hr (fun t ht hW => ⟨⟨1, (), rfl, trivial, trivial⟩, hS.F ht⟩) hS.2.2 dX0_joined_101
  have n_26 := c_ne (a := x3.toInt) (b := 5) rfl (by decide +kernel) q_23
  refine lv_tableOut (tgt := 102) hx hb dX0_joined_2 (by omega) (by decide +kernel) ?_
  refine lv_lload_n hx hb dX0_joined_102 rfl (lv_at hl 0 rfl) ?_
  refine lv_lload_n hx hb dX0_joined_103 rfl (lv_at hl 1 rfl) ?_
  refine W.lcmp hx hb dX0_joined_104 ?_
  refine lv_topi (fun x_27 ex_27 => ?_)
  refine lv_if_le (tgt := 112) hx hb dX0_joined_105 (by decide +kernel) (fun c_28 => ?_) (fun c_28 => ?_)
  · have dc_28 := c_le (a := x_27.toInt) (b := 0) rfl (by decide +kernel) c_28
    refine lv_iconst (v := 0) hx hb dX0_joined_112 (by decide +kernel) ?_
    exact W.iret (v := 0) hx hb hr (fun t ht hW => ⟨⟨0, (), rfl, trivial, trivial⟩, hS.F ht⟩) hS.2.2 dX0_joined_113
  · have dc_28 := c_nle (a := x_27.toInt) (b := 0) rfl (by decide +kernel) c_28
    refine lv_iconst (v := 1) hx hb dX0_joined_108 (by decide +kernel) ?_
    refine lv_goto (tgt := 113) hx hb dX0_joined_109 (by decide +kernel) ?_
    exact W.iret (v := 1) hx hb hr (fun t ht hW => ⟨⟨1, (), rfl, trivial, trivial⟩, hS.F ht⟩) hS.2.2 dX0_joined_113
