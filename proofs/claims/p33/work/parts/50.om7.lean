abbrev wsX70 : List Cond := u_ws RX7 TX7 2
abbrev cX7_join : ByteArray := prog_9_method_2_code
def yX7_join : MethodName := ⟨RX7, "join", "(III)I"⟩
abbrev cX7_way : ByteArray := prog_9_method_3_code
def yX7_way : MethodName := ⟨RX7, "way", "(II)I"⟩
abbrev cX7_shorten : ByteArray := prog_9_method_4_code
def yX7_shorten : MethodName := ⟨RX7, "shorten", "()V"⟩
def RJ7 : String := "java/util/Arrays"
abbrev cJ7_fill_d0a16 : ByteArray := prog_17_method_101_code
def yJ7_fill_d0a16 : MethodName := ⟨RJ7, "fill", "([JJ)V"⟩
abbrev cJ7_fill_53178 : ByteArray := prog_17_method_103_code
def yJ7_fill_53178 : MethodName := ⟨RJ7, "fill", "([II)V"⟩
def wsJ7_fill_d0a16 : List Cond := .code yJ7_fill_d0a16 cJ7_fill_d0a16 5 none :: ([])
def wsX7_join : List Cond := .code yX7_join cX7_join 5 (some .int) :: ([.fieldLink RX7 9 "ShipOffice$Sea" "miles" "[I"] ++ wsX70)
theorem il_X7_join_1 : ∀ w ∈ ([.fieldLink RX7 9 "ShipOffice$Sea" "miles" "[I"] : List Cond), w ∈ wsX7_join := fun w h => (List.mem_cons_of_mem _ (List.mem_append_left _ h))
theorem iw_X7_join_1 : Cond.fieldLink RX7 9 "ShipOffice$Sea" "miles" "[I" ∈ wsX7_join := (mmI il_X7_join_1 0 rfl)
def wsJ7_fill_53178 : List Cond := .code yJ7_fill_53178 cJ7_fill_53178 4 none :: ([])
theorem gw_J7_fill_53178 : wsJ7_fill_53178.all goodWord = true := by decide +kernel
def wsX7_shorten : List Cond := .code yX7_shorten cX7_shorten 4 none :: ([.fieldLink RX7 9 "ShipOffice$Sea" "miles" "[I", .fieldLink RX7 15 "ShipOffice$Sea" "least" "[I"] ++ wsX70)
theorem gw_X7_shorten : wsX7_shorten.all goodWord = true := by decide +kernel
theorem il_X7_shorten_1 : ∀ w ∈ ([.fieldLink RX7 9 "ShipOffice$Sea" "miles" "[I", .fieldLink RX7 15 "ShipOffice$Sea" "least" "[I"] : List Cond), w ∈ wsX7_shorten := fun w h => (List.mem_cons_of_mem _ (List.mem_append_left _ h))
theorem iw_X7_shorten_1 : Cond.fieldLink RX7 9 "ShipOffice$Sea" "miles" "[I" ∈ wsX7_shorten := (mmI il_X7_shorten_1 0 rfl)
theorem iw_X7_shorten_2 : Cond.fieldLink RX7 15 "ShipOffice$Sea" "least" "[I" ∈ wsX7_shorten := (mmI il_X7_shorten_1 1 rfl)
def wsX7_way : List Cond := .code yX7_way cX7_way 4 (some .int) :: ([.fieldLink RX7 15 "ShipOffice$Sea" "least" "[I", .constant RX7 18 (1000000), .methodLink RX7 19 yJ7_fill_53178, .static yJ7_fill_53178, .initialized RJ7, .code yJ7_fill_53178 cJ7_fill_53178 4 none, .methodLink RX7 25 yX7_shorten, .instanceMethod yX7_shorten, .selects RX7 yX7_shorten yX7_shorten, .initialized RX7, .code yX7_shorten cX7_shorten 4 none, .fieldLink RX7 9 "ShipOffice$Sea" "miles" "[I"] ++ wsX70)
theorem il_X7_way_1 : ∀ w ∈ ([.fieldLink RX7 15 "ShipOffice$Sea" "least" "[I", .constant RX7 18 (1000000), .methodLink RX7 19 yJ7_fill_53178, .static yJ7_fill_53178, .initialized RJ7, .code yJ7_fill_53178 cJ7_fill_53178 4 none, .methodLink RX7 25 yX7_shorten, .instanceMethod yX7_shorten, .selects RX7 yX7_shorten yX7_shorten, .initialized RX7, .code yX7_shorten cX7_shorten 4 none, .fieldLink RX7 9 "ShipOffice$Sea" "miles" "[I"] : List Cond), w ∈ wsX7_way := fun w h => (List.mem_cons_of_mem _ (List.mem_append_left _ h))
theorem il_X7_way_2 : ∀ w ∈ wsX70, w ∈ wsX7_way := fun w h => (List.mem_cons_of_mem _ (List.mem_append_right _ h))
theorem iw_X7_way_1 : Cond.fieldLink RX7 15 "ShipOffice$Sea" "least" "[I" ∈ wsX7_way := (mmI il_X7_way_1 0 rfl)
theorem dX7_join_0 : decode cX7_join 0 = .ok (.aload_n 0, 1) := by decide +kernel
theorem dX7_join_1 : decode cX7_join 1 = .ok (.getfield 9, 3) := by decide +kernel
theorem dX7_join_4 : decode cX7_join 4 = .ok (.iload_n 1, 1) := by decide +kernel
theorem dX7_join_5 : decode cX7_join 5 = .ok (.bipush 10, 2) := by decide +kernel
theorem dX7_join_7 : decode cX7_join 7 = .ok (.imul, 1) := by decide +kernel
theorem dX7_join_8 : decode cX7_join 8 = .ok (.iload_n 2, 1) := by decide +kernel
theorem dX7_join_9 : decode cX7_join 9 = .ok (.iadd, 1) := by decide +kernel
theorem dX7_join_10 : decode cX7_join 10 = .ok (.iaload, 1) := by decide +kernel
theorem dX7_join_11 : decode cX7_join 11 = .ok (.istore 4, 2) := by decide +kernel
theorem dX7_join_13 : decode cX7_join 13 = .ok (.aload_n 0, 1) := by decide +kernel
theorem dX7_join_14 : decode cX7_join 14 = .ok (.getfield 9, 3) := by decide +kernel
theorem dX7_join_17 : decode cX7_join 17 = .ok (.iload_n 1, 1) := by decide +kernel
theorem dX7_join_18 : decode cX7_join 18 = .ok (.bipush 10, 2) := by decide +kernel
theorem dX7_join_20 : decode cX7_join 20 = .ok (.imul, 1) := by decide +kernel
theorem dX7_join_21 : decode cX7_join 21 = .ok (.iload_n 2, 1) := by decide +kernel
theorem dX7_join_22 : decode cX7_join 22 = .ok (.iadd, 1) := by decide +kernel
theorem dX7_join_23 : decode cX7_join 23 = .ok (.iload_n 3, 1) := by decide +kernel
theorem dX7_join_24 : decode cX7_join 24 = .ok (.iastore, 1) := by decide +kernel
theorem dX7_join_25 : decode cX7_join 25 = .ok (.aload_n 0, 1) := by decide +kernel
theorem dX7_join_26 : decode cX7_join 26 = .ok (.getfield 9, 3) := by decide +kernel
theorem dX7_join_29 : decode cX7_join 29 = .ok (.iload_n 2, 1) := by decide +kernel
theorem dX7_join_30 : decode cX7_join 30 = .ok (.bipush 10, 2) := by decide +kernel
theorem dX7_join_32 : decode cX7_join 32 = .ok (.imul, 1) := by decide +kernel
theorem dX7_join_33 : decode cX7_join 33 = .ok (.iload_n 1, 1) := by decide +kernel
theorem dX7_join_34 : decode cX7_join 34 = .ok (.iadd, 1) := by decide +kernel
theorem dX7_join_35 : decode cX7_join 35 = .ok (.iload_n 3, 1) := by decide +kernel
theorem dX7_join_36 : decode cX7_join 36 = .ok (.iastore, 1) := by decide +kernel
theorem dX7_join_37 : decode cX7_join 37 = .ok (.iload 4, 2) := by decide +kernel
theorem dX7_join_39 : decode cX7_join 39 = .ok (.ireturn, 1) := by decide +kernel
set_option maxRecDepth 100000 in
theorem ggX7_way_J7_fill_53178 : GoodIn wsX7_way wsJ7_fill_53178 := goodIn_sub (mmC (mmI il_X7_way_1 5 rfl) mmN) gw_J7_fill_53178
set_option maxRecDepth 20000 in
theorem gX7_way_J7_fill_53178 : GoodIn wsX7_way (va_wsS RX7 19 yJ7_fill_53178 wsJ7_fill_53178) := goodIn_app (goodIn_of _ (by decide +kernel)) ggX7_way_J7_fill_53178
set_option maxRecDepth 100000 in
theorem ggX7_way_X7_shorten : GoodIn wsX7_way wsX7_shorten := goodIn_sub (mmC (mmI il_X7_way_1 10 rfl) (mmA (mmC (mmI il_X7_way_1 11 rfl) (mmC (mmI il_X7_way_1 0 rfl) mmN)) il_X7_way_2)) gw_X7_shorten
theorem gX7_way_X7_shorten : GoodIn wsX7_way (wsV RX7 25 RX7 yX7_shorten wsX7_shorten) := goodIn_app (goodIn_sub (mmC (mmI il_X7_way_1 6 rfl) (mmC (mmI il_X7_way_1 7 rfl) (mmC (mmI il_X7_way_1 8 rfl) (mmC (mmI il_X7_way_1 9 rfl) mmN)))) (by decide +kernel)) ggX7_way_X7_shorten
theorem dX7_way_0 : decode cX7_way 0 = .ok (.aload_n 0, 1) := by decide +kernel
theorem dX7_way_1 : decode cX7_way 1 = .ok (.getfield 15, 3) := by decide +kernel
theorem dX7_way_4 : decode cX7_way 4 = .ok (.ldc 18, 2) := by decide +kernel
theorem dX7_way_6 : decode cX7_way 6 = .ok (.invokestatic 19, 3) := by decide +kernel
theorem dX7_way_9 : decode cX7_way 9 = .ok (.aload_n 0, 1) := by decide +kernel
theorem dX7_way_10 : decode cX7_way 10 = .ok (.getfield 15, 3) := by decide +kernel
theorem dX7_way_13 : decode cX7_way 13 = .ok (.iload_n 1, 1) := by decide +kernel
theorem dX7_way_14 : decode cX7_way 14 = .ok (.iconst 0, 1) := by decide +kernel
theorem dX7_way_15 : decode cX7_way 15 = .ok (.iastore, 1) := by decide +kernel
theorem dX7_way_16 : decode cX7_way 16 = .ok (.iconst 1, 1) := by decide +kernel
theorem dX7_way_17 : decode cX7_way 17 = .ok (.istore_n 3, 1) := by decide +kernel
theorem dX7_way_18 : decode cX7_way 18 = .ok (.iload_n 3, 1) := by decide +kernel
theorem dX7_way_19 : decode cX7_way 19 = .ok (.bipush 10, 2) := by decide +kernel
theorem dX7_way_21 : decode cX7_way 21 = .ok (.if_icmp .ge 13, 3) := by decide +kernel
theorem dX7_way_24 : decode cX7_way 24 = .ok (.aload_n 0, 1) := by decide +kernel
theorem dX7_way_25 : decode cX7_way 25 = .ok (.invokevirtual 25, 3) := by decide +kernel
theorem dX7_way_28 : decode cX7_way 28 = .ok (.iinc 3 1, 3) := by decide +kernel
theorem dX7_way_31 : decode cX7_way 31 = .ok (.goto (-13), 3) := by decide +kernel
theorem dX7_way_34 : decode cX7_way 34 = .ok (.aload_n 0, 1) := by decide +kernel
theorem dX7_way_35 : decode cX7_way 35 = .ok (.getfield 15, 3) := by decide +kernel
theorem dX7_way_38 : decode cX7_way 38 = .ok (.iload_n 2, 1) := by decide +kernel
theorem dX7_way_39 : decode cX7_way 39 = .ok (.iaload, 1) := by decide +kernel
theorem dX7_way_40 : decode cX7_way 40 = .ok (.ldc 18, 2) := by decide +kernel
theorem dX7_way_42 : decode cX7_way 42 = .ok (.if_icmp .ne 8, 3) := by decide +kernel
theorem dX7_way_45 : decode cX7_way 45 = .ok (.bipush (-9), 2) := by decide +kernel
theorem dX7_way_47 : decode cX7_way 47 = .ok (.goto 9, 3) := by decide +kernel
theorem dX7_way_50 : decode cX7_way 50 = .ok (.aload_n 0, 1) := by decide +kernel
theorem dX7_way_51 : decode cX7_way 51 = .ok (.getfield 15, 3) := by decide +kernel
theorem dX7_way_54 : decode cX7_way 54 = .ok (.iload_n 2, 1) := by decide +kernel
theorem dX7_way_55 : decode cX7_way 55 = .ok (.iaload, 1) := by decide +kernel
theorem dX7_way_56 : decode cX7_way 56 = .ok (.ireturn, 1) := by decide +kernel
theorem dX7_shorten_0 : decode cX7_shorten 0 = .ok (.iconst 0, 1) := by decide +kernel
theorem dX7_shorten_1 : decode cX7_shorten 1 = .ok (.istore_n 1, 1) := by decide +kernel
theorem dX7_shorten_2 : decode cX7_shorten 2 = .ok (.iload_n 1, 1) := by decide +kernel
theorem dX7_shorten_3 : decode cX7_shorten 3 = .ok (.bipush 10, 2) := by decide +kernel
theorem dX7_shorten_5 : decode cX7_shorten 5 = .ok (.if_icmp .ge 70, 3) := by decide +kernel
theorem dX7_shorten_8 : decode cX7_shorten 8 = .ok (.iconst 0, 1) := by decide +kernel
theorem dX7_shorten_9 : decode cX7_shorten 9 = .ok (.istore_n 2, 1) := by decide +kernel
theorem dX7_shorten_10 : decode cX7_shorten 10 = .ok (.iload_n 2, 1) := by decide +kernel
theorem dX7_shorten_11 : decode cX7_shorten 11 = .ok (.bipush 10, 2) := by decide +kernel
theorem dX7_shorten_13 : decode cX7_shorten 13 = .ok (.if_icmp .ge 56, 3) := by decide +kernel
theorem dX7_shorten_16 : decode cX7_shorten 16 = .ok (.aload_n 0, 1) := by decide +kernel
theorem dX7_shorten_17 : decode cX7_shorten 17 = .ok (.getfield 9, 3) := by decide +kernel
theorem dX7_shorten_20 : decode cX7_shorten 20 = .ok (.iload_n 1, 1) := by decide +kernel
theorem dX7_shorten_21 : decode cX7_shorten 21 = .ok (.bipush 10, 2) := by decide +kernel
theorem dX7_shorten_23 : decode cX7_shorten 23 = .ok (.imul, 1) := by decide +kernel
theorem dX7_shorten_24 : decode cX7_shorten 24 = .ok (.iload_n 2, 1) := by decide +kernel
theorem dX7_shorten_25 : decode cX7_shorten 25 = .ok (.iadd, 1) := by decide +kernel
theorem dX7_shorten_26 : decode cX7_shorten 26 = .ok (.iaload, 1) := by decide +kernel
theorem dX7_shorten_27 : decode cX7_shorten 27 = .ok (.istore_n 3, 1) := by decide +kernel
theorem dX7_shorten_28 : decode cX7_shorten 28 = .ok (.iload_n 3, 1) := by decide +kernel
theorem dX7_shorten_29 : decode cX7_shorten 29 = .ok (.ifCond .le 34, 3) := by decide +kernel
theorem dX7_shorten_32 : decode cX7_shorten 32 = .ok (.aload_n 0, 1) := by decide +kernel
theorem dX7_shorten_33 : decode cX7_shorten 33 = .ok (.getfield 15, 3) := by decide +kernel
theorem dX7_shorten_36 : decode cX7_shorten 36 = .ok (.iload_n 1, 1) := by decide +kernel
theorem dX7_shorten_37 : decode cX7_shorten 37 = .ok (.iaload, 1) := by decide +kernel
theorem dX7_shorten_38 : decode cX7_shorten 38 = .ok (.iload_n 3, 1) := by decide +kernel
theorem dX7_shorten_39 : decode cX7_shorten 39 = .ok (.iadd, 1) := by decide +kernel
theorem dX7_shorten_40 : decode cX7_shorten 40 = .ok (.aload_n 0, 1) := by decide +kernel
theorem dX7_shorten_41 : decode cX7_shorten 41 = .ok (.getfield 15, 3) := by decide +kernel
theorem dX7_shorten_44 : decode cX7_shorten 44 = .ok (.iload_n 2, 1) := by decide +kernel
theorem dX7_shorten_45 : decode cX7_shorten 45 = .ok (.iaload, 1) := by decide +kernel
theorem dX7_shorten_46 : decode cX7_shorten 46 = .ok (.if_icmp .ge 17, 3) := by decide +kernel
theorem dX7_shorten_49 : decode cX7_shorten 49 = .ok (.aload_n 0, 1) := by decide +kernel
theorem dX7_shorten_50 : decode cX7_shorten 50 = .ok (.getfield 15, 3) := by decide +kernel
theorem dX7_shorten_53 : decode cX7_shorten 53 = .ok (.iload_n 2, 1) := by decide +kernel
theorem dX7_shorten_54 : decode cX7_shorten 54 = .ok (.aload_n 0, 1) := by decide +kernel
theorem dX7_shorten_55 : decode cX7_shorten 55 = .ok (.getfield 15, 3) := by decide +kernel
theorem dX7_shorten_58 : decode cX7_shorten 58 = .ok (.iload_n 1, 1) := by decide +kernel
theorem dX7_shorten_59 : decode cX7_shorten 59 = .ok (.iaload, 1) := by decide +kernel
theorem dX7_shorten_60 : decode cX7_shorten 60 = .ok (.iload_n 3, 1) := by decide +kernel
theorem dX7_shorten_61 : decode cX7_shorten 61 = .ok (.iadd, 1) := by decide +kernel
theorem dX7_shorten_62 : decode cX7_shorten 62 = .ok (.iastore, 1) := by decide +kernel
theorem dX7_shorten_63 : decode cX7_shorten 63 = .ok (.iinc 2 1, 3) := by decide +kernel
theorem dX7_shorten_66 : decode cX7_shorten 66 = .ok (.goto (-56), 3) := by decide +kernel
theorem dX7_shorten_69 : decode cX7_shorten 69 = .ok (.iinc 1 1, 3) := by decide +kernel
theorem dX7_shorten_72 : decode cX7_shorten 72 = .ok (.goto (-70), 3) := by decide +kernel
theorem dX7_shorten_75 : decode cX7_shorten 75 = .ok (.return_, 1) := by decide +kernel
theorem dJ7_fill_d0a16_0 : decode cJ7_fill_d0a16 0 = .ok (.iconst 0, 1) := by decide +kernel
theorem dJ7_fill_d0a16_1 : decode cJ7_fill_d0a16 1 = .ok (.istore_n 3, 1) := by decide +kernel
theorem dJ7_fill_d0a16_2 : decode cJ7_fill_d0a16 2 = .ok (.aload_n 0, 1) := by decide +kernel
theorem dJ7_fill_d0a16_3 : decode cJ7_fill_d0a16 3 = .ok (.arraylength, 1) := by decide +kernel
theorem dJ7_fill_d0a16_4 : decode cJ7_fill_d0a16 4 = .ok (.istore 4, 2) := by decide +kernel
theorem dJ7_fill_d0a16_6 : decode cJ7_fill_d0a16 6 = .ok (.iload_n 3, 1) := by decide +kernel
theorem dJ7_fill_d0a16_7 : decode cJ7_fill_d0a16 7 = .ok (.iload 4, 2) := by decide +kernel
theorem dJ7_fill_d0a16_9 : decode cJ7_fill_d0a16 9 = .ok (.if_icmp .ge 13, 3) := by decide +kernel
theorem dJ7_fill_d0a16_12 : decode cJ7_fill_d0a16 12 = .ok (.aload_n 0, 1) := by decide +kernel
theorem dJ7_fill_d0a16_13 : decode cJ7_fill_d0a16 13 = .ok (.iload_n 3, 1) := by decide +kernel
theorem dJ7_fill_d0a16_14 : decode cJ7_fill_d0a16 14 = .ok (.lload_n 1, 1) := by decide +kernel
theorem dJ7_fill_d0a16_15 : decode cJ7_fill_d0a16 15 = .ok (.lastore, 1) := by decide +kernel
theorem dJ7_fill_d0a16_16 : decode cJ7_fill_d0a16 16 = .ok (.iinc 3 1, 3) := by decide +kernel
theorem dJ7_fill_d0a16_19 : decode cJ7_fill_d0a16 19 = .ok (.goto (-13), 3) := by decide +kernel
theorem dJ7_fill_d0a16_22 : decode cJ7_fill_d0a16 22 = .ok (.return_, 1) := by decide +kernel
theorem dJ7_fill_53178_0 : decode cJ7_fill_53178 0 = .ok (.iconst 0, 1) := by decide +kernel
theorem dJ7_fill_53178_1 : decode cJ7_fill_53178 1 = .ok (.istore_n 2, 1) := by decide +kernel
theorem dJ7_fill_53178_2 : decode cJ7_fill_53178 2 = .ok (.aload_n 0, 1) := by decide +kernel
theorem dJ7_fill_53178_3 : decode cJ7_fill_53178 3 = .ok (.arraylength, 1) := by decide +kernel
theorem dJ7_fill_53178_4 : decode cJ7_fill_53178 4 = .ok (.istore_n 3, 1) := by decide +kernel
theorem dJ7_fill_53178_5 : decode cJ7_fill_53178 5 = .ok (.iload_n 2, 1) := by decide +kernel
theorem dJ7_fill_53178_6 : decode cJ7_fill_53178 6 = .ok (.iload_n 3, 1) := by decide +kernel
theorem dJ7_fill_53178_7 : decode cJ7_fill_53178 7 = .ok (.if_icmp .ge 13, 3) := by decide +kernel
theorem dJ7_fill_53178_10 : decode cJ7_fill_53178 10 = .ok (.aload_n 0, 1) := by decide +kernel
theorem dJ7_fill_53178_11 : decode cJ7_fill_53178 11 = .ok (.iload_n 2, 1) := by decide +kernel
theorem dJ7_fill_53178_12 : decode cJ7_fill_53178 12 = .ok (.iload_n 1, 1) := by decide +kernel
theorem dJ7_fill_53178_13 : decode cJ7_fill_53178 13 = .ok (.iastore, 1) := by decide +kernel
theorem dJ7_fill_53178_14 : decode cJ7_fill_53178 14 = .ok (.iinc 2 1, 3) := by decide +kernel
theorem dJ7_fill_53178_17 : decode cJ7_fill_53178 17 = .ok (.goto (-12), 3) := by decide +kernel
theorem dJ7_fill_53178_20 : decode cJ7_fill_53178 20 = .ok (.return_, 1) := by decide +kernel
theorem in_wsX7_join_X7 : ∀ w ∈ wsX70, w ∈ wsX7_join := fun w h => List.mem_cons_of_mem _ (List.mem_append_right _ h)
theorem in_wsX7_shorten_X7 : ∀ w ∈ wsX70, w ∈ wsX7_shorten := fun w h => List.mem_cons_of_mem _ (List.mem_append_right _ h)
theorem in_wsX7_way_X7 : ∀ w ∈ wsX70, w ∈ wsX7_way := fun w h => List.mem_cons_of_mem _ (List.mem_append_right _ h)
