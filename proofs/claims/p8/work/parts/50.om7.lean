abbrev wsX70 : List Cond := u_ws RX7 TX7 2
abbrev cX7_join : ByteArray := prog_9_method_2_code
def yX7_join : MethodName := ⟨RX7, "join", "(III)I"⟩
abbrev cX7_way : ByteArray := prog_9_method_3_code
def yX7_way : MethodName := ⟨RX7, "way", "(II)I"⟩
abbrev cX7_shorten : ByteArray := prog_9_method_4_code
def yX7_shorten : MethodName := ⟨RX7, "shorten", "()V"⟩
def RJ7 : String := "java/util/Arrays"
abbrev cJ7_fill_d0a16 : ByteArray := prog_17_method_101_code
def yJ7_fill_d0a16 : MethodName := ⟨RJ7, "fill", "([JJ)V"⟩
abbrev cJ7_fill_53178 : ByteArray := prog_17_method_103_code
def yJ7_fill_53178 : MethodName := ⟨RJ7, "fill", "([II)V"⟩
def wsJ7_fill_d0a16 : List Cond := .code yJ7_fill_d0a16 cJ7_fill_d0a16 5 none :: ([])
def wsX7_join : List Cond := .code yX7_join cX7_join 5 (some .int) :: ([.fieldLink RX7 9 "ShipOffice$Sea" "miles" "[I"] ++ wsX70)
theorem il_X7_join_1 : ∀ w ∈ ([.fieldLink RX7 9 "ShipOffice$Sea" "miles" "[I"] : List Cond), w ∈ wsX7_join := fun w h => (List.mem_cons_of_mem _ (List.mem_append_left _ h))
theorem iw_X7_join_1 : Cond.fieldLink RX7 9 "ShipOffice$Sea" "miles" "[I" ∈ wsX7_join := (mmI il_X7_join_1 0 rfl)
def wsJ7_fill_53178 : List Cond := .code yJ7_fill_53178 cJ7_fill_53178 4 none :: ([])
theorem gw_J7_fill_53178 : wsJ7_fill_53178.all goodWord = true := by decide +kernel
def wsX7_shorten : List Cond := .code yX7_shorten cX7_shorten 4 none :: ([.fieldLink RX7 9 "ShipOffice$Sea" "miles" "[I", .fieldLink RX7 15 "ShipOffice$Sea" "least" "[I"] ++ wsX70)
theorem gw_X7_shorten : wsX7_shorten.all goodWord = true := by decide +kernel
theorem il_X7_shorten_1 : ∀ w ∈ ([.fieldLink RX7 9 "ShipOffice$Sea" "miles" "[I", .fieldLink RX7 15 "ShipOffice$Sea" "least" "[I"] : List Cond), w ∈ wsX7_shorten := fun w h => (List.mem_cons_of_mem _ (List.mem_append_left _ h))
theorem iw_X7_shorten_1 : Cond.fieldLink RX7 9 "ShipOffice$Sea" "miles" "[I" ∈ wsX7_shorten := (mmI il_X7_shorten_1 0 rfl)
theorem iw_X7_shorten_2 : Cond.fieldLink RX7 15 "ShipOffice$Sea" "least" "[I" ∈ wsX7_shorten := (mmI il_X7_shorten_1 1 rfl)
def wsX7_way : List Cond := .code yX7_way cX7_way 4 (some .int) :: ([.fieldLink RX7 15 "ShipOffice$Sea" "least" "[I", .constant RX7 18 (1000000), .methodLink RX7 19 yJ7_fill_53178, .static yJ7_fill_53178, .initialized RJ7, .code yJ7_fill_53178 cJ7_fill_53178 4 none, .methodLink RX7 25 yX7_shorten, .instanceMethod yX7_shorten, .selects RX7 yX7_shorten yX7_shorten, .initialized RX7, .code yX7_shorten cX7_shorten 4 none, .fieldLink RX7 9 "ShipOffice$Sea" "miles" "[I"] ++ wsX70)
theorem il_X7_way_1 : ∀ w ∈ ([.fieldLink RX7 15 "ShipOffice$Sea" "least" "[I", .constant RX7 18 (1000000), .methodLink RX7 19 yJ7_fill_53178, .static yJ7_fill_53178, .initialized RJ7, .code yJ7_fill_53178 cJ7_fill_53178 4 none, .methodLink RX7 25 yX7_shorten, .instanceMethod yX7_shorten, .selects RX7 yX7_shorten yX7_shorten, .initialized RX7, .code yX7_shorten cX7_shorten 4 none, .fieldLink RX7 9 "ShipOffice$Sea" "miles" "[I"] : List Cond), w ∈ wsX7_way := fun w h => (List.mem_cons_of_mem _ (List.mem_append_left _ h))
theorem il_X7_way_2 : ∀ w ∈ wsX70, w ∈ wsX7_way := fun w h => (List.mem_cons_of_mem _ (List.mem_append_right _ h))
theorem iw_X7_way_1 : Cond.fieldLink RX7 15 "ShipOffice$Sea" "least" "[I" ∈ wsX7_way := (mmI il_X7_way_1 0 rfl)
theorem dX7_join_0 : decode cX7_join 0 = .ok (.aload_n 0, 1) := by decide +kernel
theorem dX7_join_1 : decode cX7_join 1 = .ok (.getfield 9, 3) := by decide +kernel
theorem dX7_join_4 : decode cX7_join 4 = .ok (.iload_n 1, 1) := by decide +kernel
theorem dX7_join_5 : decode cX7_join 5 = .ok (.bipush 10, 2) := by decide +kernel
theorem dX7_join_7 : decode cX7_join 7 = .ok (.imul, 1) := by decide +kernel
theorem dX7_join_8 : decode cX7_join 8 = .ok (.iload_n 2, 1) := by decide +kernel
theorem dX7_join_9 : decode cX7_join 9 = .ok (.iadd, 1) := by decide +kernel
theorem dX7_join_10 : decode cX7_join 10 = .ok (.iaload, 1) := by decide +kernel
theorem dX7_join_11 : decode cX7_join 11 = .ok (.istore 4, 2) := by decide +kernel
theorem dX7_join_13 : decode cX7_join 13 = .ok (.aload_n 0, 1) := by decide +kernel
theorem dX7_join_14 : decode cX7_join 14 = .ok (.getfield 9, 3) := by decide +kernel
theorem dX7_join_17 : decode cX7_join 17 = .ok (.iload_n 1, 1) := by decide +kernel
theorem dX7_join_18 : decode cX7_join 18 = .ok (.bipush 10, 2) := by decide +kernel
theorem dX7_join_20 : decode cX7_join 20 = .ok (.imul, 1) := by decide +kernel
theorem dX7_join_21 : decode cX7_join 21 = .ok (.iload_n 2, 1) := by decide +kernel
theorem dX7_join_22 : decode cX7_join 22 = .ok (.iadd, 1) := by decide +kernel
theorem dX7_join_23 : decode cX7_join 23 = .ok (.iload_n 3, 1) := by decide +kernel
theorem dX7_join_24 : decode cX7_join 24 = .ok (.iastore, 1) := by decide +kernel
theorem dX7_join_25 : decode cX7_join 25 = .ok (.aload_n 0, 1) := by decide +kernel
theorem dX7_join_26 : decode cX7_join 26 = .ok (.getfield 9, 3) := by decide +kernel
theorem dX7_join_29 : decode cX7_join 29 = .ok (.iload_n 2, 1) := by decide +kernel
theorem dX7_join_30 : decode cX7_join 30 = .ok (.bipush 10, 2) := by decide +kernel
theorem dX7_join_32 : decode cX7_join 32 = .ok (.imul, 1) := by decide +kernel
theorem dX7_join_33 : decode cX7_join 33 = .ok (.iload_n 1, 1) := by decide +kernel
theorem dX7_join_34 : decode cX7_join 34 = .ok (.iadd, 1) := by decide +kernel
theorem dX7_join_35 : decode cX7_join 35 = .ok (.iload_n 3, 1) := by decide +kernel
theorem dX7_join_36 : decode cX7_join 36 = .ok (.iastore, 1) := by decide +kernel
theorem dX7_join_37 : decode cX7_join 37 = .ok (.iload 4, 2) := by decide +kernel
theorem dX7_join_39 : decode cX7_join 39 = .ok (.ireturn, 1) := by decide +kernel
set_option maxRecDepth 100000 in
theorem ggX7_way_J7_fill_53178 : GoodIn wsX7_way wsJ7_fill_53178 := goodIn_sub (mmC (mmI il_X7_way_1 5 rfl) mmN) gw_J7_fill_53178
set_option maxRecDepth 20000 in
theorem gX7_way_J7_fill_53178 : GoodIn wsX7_way (va_wsS RX7 19 yJ7_fill_53178 wsJ7_fill_53178) := goodIn_app (goodIn_of _ (by decide +kernel)) ggX7_way_J7_fill_53178
set_option maxRecDepth 100000 in
theorem ggX7_way_X7_shorten : GoodIn wsX7_way wsX7_shorten := goodIn_sub (mmC (mmI il_X7_way_1 10 rfl) (mmA (mmC (mmI il_X7_way_1 11 rfl) (mmC (mmI il_X7_way_1 0 rfl) mmN)) il_X7_way_2)) gw_X7_shorten
theorem gX7_way_X7_shorten : GoodIn wsX7_way (wsV RX7 25 RX7 yX7_shorten wsX7_shorten) := goodIn_app (goodIn_sub (mmC (mmI il_X7_way_1 6 rfl) (mmC (mmI il_X7_way_1 7 rfl) (mmC (mmI il_X7_way_1 8 rfl) (mmC (mmI il_X7_way_1 9 rfl) mmN)))) (by decide +kernel)) ggX7_way_X7_shorten
theorem dX7_way_0 : decode cX7_way 0 = .ok (.aload_n 0, 1) := by decide +kernel
theorem dX7_way_1 : decode cX7_way 1 = .ok (.getfield 15, 3) := by decide +kernel
theorem dX7_way_4 : decode cX7_way 4 = .ok (.ldc 18, 2) := by decide +kernel
theorem dX7_way_6 : decode cX7_way 6 = .ok (.invokestatic 19, 3) := by decide +kernel
theorem dX7_way_9 : decode cX7_way 9 = .ok (.aload_n 0, 1) := by decide +kernel
theorem dX7_way_10 : decode cX7_way 10 = .ok (.getfield 15, 3) := by decide +kernel
theorem dX7_way_13 : decode cX7_way 13 = .ok (.iload_n 1, 1) := by decide +kernel
theorem dX7_way_14 : decode cX7_way 14 = .ok (.iconst 0, 1) := by decide +kernel
theorem dX7_way_15 : decode cX7_way 15 = .ok (.iastore, 1) := by decide +kernel
theorem dX7_way_16 : decode cX7_way 16 = .ok (.iconst 1, 1) := by decide +kernel
theorem dX7_way_17 : decode cX7_way 17 = .ok (.istore_n 3, 1) := by decide +kernel
theorem dX7_way_18 : decode cX7_way 18 = .ok (.iload_n 3, 1) := by decide +kernel
theorem dX7_way_19 : decode cX7_way 19 = .ok (.bipush 10, 2) := by decide +kernel
theorem dX7_way_21 : decode cX7_way 21 = .ok (.if_icmp .ge 13, 3) := by decide +kernel
theorem dX7_way_24 : decode cX7_way 24 = .ok (.aload_n 0, 1) := by decide +kernel
theorem dX7_way_25 : decode cX7_way 25 = .ok (.invokevirtual 25, 3) := by decide +kernel
theorem dX7_way_28 : decode cX7_way 28 = .ok (.iinc 3 1, 3) := by decide +kernel
theorem dX7_way_31 : decode cX7_way 31 = .ok (.goto (-13), 3) := by decide +kernel
theorem dX7_way_34 : decode cX7_way 34 = .ok (.aload_n 0, 1) := by decide +kernel
theorem dX7_way_35 : decode cX7_way 35 = .ok (.getfield 15, 3) := by decide +kernel
theorem dX7_way_38 : decode cX7_way 38 = .ok (.iload_n 2, 1) := by decide +kernel
theorem dX7_way_39 : decode cX7_way 39 = .ok (.iaload, 1) := by decide +kernel
theorem dX7_way_40 : decode cX7_way 40 = .ok (.ldc 18, 2) := by decide +kernel
theorem dX7_way_42 : decode cX7_way 42 = .ok (.if_icmp .ne 8, 3) := by decide +kernel
theorem dX7_way_45 : decode cX7_way 45 = .ok (.bipush (-9), 2) := by decide +kernel
theorem dX7_way_47 : decode cX7_way 47 = .ok (.goto 9, 3) := by decide +kernel
theorem dX7_way_50 : decode cX7_way 50 = .ok (.aload_n 0, 1) := by decide +kernel
theorem dX7_way_51 : decode cX7_way 51 = .ok (.getfield 15, 3) := by decide +kernel
theorem dX7_way_54 : decode cX7_way 54 = .ok (.iload_n 2, 1) := by decide +kernel
theorem dX7_way_55 : decode cX7_way 55 = .ok (.iaload, 1) := by decide +kernel
theorem dX7_way_56 : decode cX7_way 56 = .ok (.ireturn, 1) := by decide +kernel
theorem dX7_shorten_0 : decode cX7_shorten 0 = .ok (.iconst 0, 1) := by decide +kernel
theorem dX7_shorten_1 : decode cX7_shorten 1 = .ok (.istore_n 1, 1) := by decide +kernel
theorem dX7_shorten_2 : decode cX7_shorten 2 = .ok (.iload_n 1, 1) := by decide +kernel
theorem dX7_shorten_3 : decode cX7_shorten 3 = .ok (.bipush 10, 2) := by decide +kernel
theorem dX7_shorten_5 : decode cX7_shorten 5 = .ok (.if_icmp .ge 70, 3) := by decide +kernel
theorem dX7_shorten_8 : decode cX7_shorten 8 = .ok (.iconst 0, 1) := by decide +kernel
theorem dX7_shorten_9 : decode cX7_shorten 9 = .ok (.istore_n 2, 1) := by decide +kernel
theorem dX7_shorten_10 : decode cX7_shorten 10 = .ok (.iload_n 2, 1) := by decide +kernel
theorem dX7_shorten_11 : decode cX7_shorten 11 = .ok (.bipush 10, 2) := by decide +kernel
theorem dX7_shorten_13 : decode cX7_shorten 13 = .ok (.if_icmp .ge 56, 3) := by decide +kernel
theorem dX7_shorten_16 : decode cX7_shorten 16 = .ok (.aload_n 0, 1) := by decide +kernel
theorem dX7_shorten_17 : decode cX7_shorten 17 = .ok (.getfield 9, 3) := by decide +kernel
theorem dX7_shorten_20 : decode cX7_shorten 20 = .ok (.iload_n 1, 1) := by decide +kernel
theorem dX7_shorten_21 : decode cX7_shorten 21 = .ok (.bipush 10, 2) := by decide +kernel
theorem dX7_shorten_23 : decode cX7_shorten 23 = .ok (.imul, 1) := by decide +kernel
theorem dX7_shorten_24 : decode cX7_shorten 24 = .ok (.iload_n 2, 1) := by decide +kernel
theorem dX7_shorten_25 : decode cX7_shorten 25 = .ok (.iadd, 1) := by decide +kernel
theorem dX7_shorten_26 : decode cX7_shorten 26 = .ok (.iaload, 1) := by decide +kernel
theorem dX7_shorten_27 : decode cX7_shorten 27 = .ok (.istore_n 3, 1) := by decide +kernel
theorem dX7_shorten_28 : decode cX7_shorten 28 = .ok (.iload_n 3, 1) := by decide +kernel
theorem dX7_shorten_29 : decode cX7_shorten 29 = .ok (.ifCond .le 34, 3) := by decide +kernel
theorem dX7_shorten_32 : decode cX7_shorten 32 = .ok (.aload_n 0, 1) := by decide +kernel
theorem dX7_shorten_33 : decode cX7_shorten 33 = .ok (.getfield 15, 3) := by decide +kernel
theorem dX7_shorten_36 : decode cX7_shorten 36 = .ok (.iload_n 1, 1) := by decide +kernel
theorem dX7_shorten_37 : decode cX7_shorten 37 = .ok (.iaload, 1) := by decide +kernel
theorem dX7_shorten_38 : decode cX7_shorten 38 = .ok (.iload_n 3, 1) := by decide +kernel
theorem dX7_shorten_39 : decode cX7_shorten 39 = .ok (.iadd, 1) := by decide +kernel
theorem dX7_shorten_40 : decode cX7_shorten 40 = .ok (.aload_n 0, 1) := by decide +kernel
theorem dX7_shorten_41 : decode cX7_shorten 41 = .ok (.getfield 15, 3) := by decide +kernel
theorem dX7_shorten_44 : decode cX7_shorten 44 = .ok (.iload_n 2, 1) := by decide +kernel
theorem dX7_shorten_45 : decode cX7_shorten 45 = .ok (.iaload, 1) := by decide +kernel
theorem dX7_shorten_46 : decode cX7_shorten 46 = .ok (.if_icmp .ge 17, 3) := by decide +kernel
theorem dX7_shorten_49 : decode cX7_shorten 49 = .ok (.aload_n 0, 1) := by decide +kernel
theorem dX7_shorten_50 : decode cX7_shorten 50 = .ok (.getfield 15, 3) := by decide +kernel
theorem dX7_shorten_53 : decode cX7_shorten 53 = .ok (.iload_n 2, 1) := by decide +kernel
theorem dX7_shorten_54 : decode cX7_shorten 54 = .ok (.aload_n 0, 1) := by decide +kernel
theorem dX7_shorten_55 : decode cX7_shorten 55 = .ok (.getfield 15, 3) := by decide +kernel
theorem dX7_shorten_58 : decode cX7_shorten 58 = .ok (.iload_n 1, 1) := by decide +kernel
theorem dX7_shorten_59 : decode cX7_shorten 59 = .ok (.iaload, 1) := by decide +kernel
theorem dX7_shorten_60 : decode cX7_shorten 60 = .ok (.iload_n 3, 1) := by decide +kernel
theorem dX7_shorten_61 : decode cX7_shorten 61 = .ok (.iadd, 1) := by decide +kernel
theorem dX7_shorten_62 : decode cX7_shorten 62 = .ok (.iastore, 1) := by decide +kernel
theorem dX7_shorten_63 : decode cX7_shorten 63 = .ok (.iinc 2 1, 3) := by decide +kernel
theorem dX7_shorten_66 : decode cX7_shorten 66 = .ok (.goto (-56), 3) := by decide +kernel
theorem dX7_shorten_69 : decode cX7_shorten 69 = .ok (.iinc 1 1, 3) := by decide +kernel
theorem dX7_shorten_72 : decode cX7_shorten 72 = .ok (.goto (-70), 3) := by decide +kernel
theorem dX7_shorten_75 : decode cX7_shorten 75 = .ok (.return_, 1) := by decide +kernel
theorem dJ7_fill_d0a16_0 : decode cJ7_fill_d0a16 0 = .ok (.iconst 0, 1) := by decide +kernel
theorem dJ7_fill_d0a16_1 : decode cJ7_fill_d0a16 1 = .ok (.istore_n 3, 1) := by decide +kernel
theorem dJ7_fill_d0a16_2 : decode cJ7_fill_d0a16 2 = .ok (.aload_n 0, 1) := by decide +kernel
theorem dJ7_fill_d0a16_3 : decode cJ7_fill_d0a16 3 = .ok (.arraylength, 1) := by decide +kernel
theorem dJ7_fill_d0a16_4 : decode cJ7_fill_d0a16 4 = .ok (.istore 4, 2) := by decide +kernel
theorem dJ7_fill_d0a16_6 : decode cJ7_fill_d0a16 6 = .ok (.iload_n 3, 1) := by decide +kernel
theorem dJ7_fill_d0a16_7 : decode cJ7_fill_d0a16 7 = .ok (.iload 4, 2) := by decide +kernel
theorem dJ7_fill_d0a16_9 : decode cJ7_fill_d0a16 9 = .ok (.if_icmp .ge 13, 3) := by decide +kernel
theorem dJ7_fill_d0a16_12 : decode cJ7_fill_d0a16 12 = .ok (.aload_n 0, 1) := by decide +kernel
theorem dJ7_fill_d0a16_13 : decode cJ7_fill_d0a16 13 = .ok (.iload_n 3, 1) := by decide +kernel
theorem dJ7_fill_d0a16_14 : decode cJ7_fill_d0a16 14 = .ok (.lload_n 1, 1) := by decide +kernel
theorem dJ7_fill_d0a16_15 : decode cJ7_fill_d0a16 15 = .ok (.lastore, 1) := by decide +kernel
theorem dJ7_fill_d0a16_16 : decode cJ7_fill_d0a16 16 = .ok (.iinc 3 1, 3) := by decide +kernel
theorem dJ7_fill_d0a16_19 : decode cJ7_fill_d0a16 19 = .ok (.goto (-13), 3) := by decide +kernel
theorem dJ7_fill_d0a16_22 : decode cJ7_fill_d0a16 22 = .ok (.return_, 1) := by decide +kernel
theorem dJ7_fill_53178_0 : decode cJ7_fill_53178 0 = .ok (.iconst 0, 1) := by decide +kernel
theorem dJ7_fill_53178_1 : decode cJ7_fill_53178 1 = .ok (.istore_n 2, 1) := by decide +kernel
theorem dJ7_fill_53178_2 : decode cJ7_fill_53178 2 = .ok (.aload_n 0, 1) := by decide +kernel
theorem dJ7_fill_53178_3 : decode cJ7_fill_53178 3 = .ok (.arraylength, 1) := by decide +kernel
theorem dJ7_fill_53178_4 : decode cJ7_fill_53178 4 = .ok (.istore_n 3, 1) := by decide +kernel
theorem dJ7_fill_53178_5 : decode cJ7_fill_53178 5 = .ok (.iload_n 2, 1) := by decide +kernel
theorem dJ7_fill_53178_6 : decode cJ7_fill_53178 6 = .ok (.iload_n 3, 1) := by decide +kernel
theorem dJ7_fill_53178_7 : decode cJ7_fill_53178 7 = .ok (.if_icmp .ge 13, 3) := by decide +kernel
theorem dJ7_fill_53178_10 : decode cJ7_fill_53178 10 = .ok (.aload_n 0, 1) := by decide +kernel
theorem dJ7_fill_53178_11 : decode cJ7_fill_53178 11 = .ok (.iload_n 2, 1) := by decide +kernel
theorem dJ7_fill_53178_12 : decode cJ7_fill_53178 12 = .ok (.iload_n 1, 1) := by decide +kernel
theorem dJ7_fill_53178_13 : decode cJ7_fill_53178 13 = .ok (.iastore, 1) := by decide +kernel
theorem dJ7_fill_53178_14 : decode cJ7_fill_53178 14 = .ok (.iinc 2 1, 3) := by decide +kernel
theorem dJ7_fill_53178_17 : decode cJ7_fill_53178 17 = .ok (.goto (-12), 3) := by decide +kernel
theorem dJ7_fill_53178_20 : decode cJ7_fill_53178 20 = .ok (.return_, 1) := by decide +kernel
theorem in_wsX7_join_X7 : ∀ w ∈ wsX70, w ∈ wsX7_join := fun w h => List.mem_cons_of_mem _ (List.mem_append_right _ h)
theorem in_wsX7_shorten_X7 : ∀ w ∈ wsX70, w ∈ wsX7_shorten := fun w h => List.mem_cons_of_mem _ (List.mem_append_right _ h)
theorem in_wsX7_way_X7 : ∀ w ∈ wsX70, w ∈ wsX7_way := fun w h => List.mem_cons_of_mem _ (List.mem_append_right _ h)

set_option maxHeartbeats 4000000 in
set_option maxRecDepth 100000 in
theorem c_J7_fill_53178_110 (l : Launch) (dC : Nat → ClassId) (dI : Nat → Nat → Nat) (sz : Nat) (cq : Nat → ClassId) (Z : oS) (gI : oInv Z) (a1 : Nat) (ta1 : oty Z a1 110) (x2 : Int32) : Met l yJ7_fill_53178 wsJ7_fill_53178 ({ frames := 0, cells := 0, slots := 0, locals := 0 }) (va_Pc [.ref a1, .int x2] (pcW (dC, dI) (oT cq) (oW cq Z) sz)) (va_Qv (fun (u : oS) => oInv u ∧ oX [2110] Z u) (fun u t => va_P (dC, dI) vwCl (oW cq u) t.heap ∧ va_K (dC, dI) vwCl (oT cq) t ∧ va_D (va_A (oW cq Z) sz) (oW cq u)) (va_A (oW cq Z) sz)) 0 0 (va_A (oW cq Z) sz) := by
  refine Met.ofW (cc := cJ7_fill_53178) (maxL := 4) (ret := none) (by decide +kernel) rfl ?_
  intro p e s m args below meth c s₁ B hml hv
  obtain ⟨rfl, hsz, hP, hK, hD0⟩ := hv
  have hx := B.exec
  have hb := B.bytes
  have hr := B.returns
  have hts := atoms_spec (ws := wsJ7_fill_53178) B.pre
  have hown : s.vm.findClass RJ7 = some m.cls := findClass_of_methodNamed B.named
  have hlocks := B.notSynchronized
  subst hsz
  have hD := hD0.self (sz := s.heap.size)
  generalize hAe : va_A (oW cq Z) s.heap.size = A at hD ⊢
  have hA : ∀ q : Nat, s.heap.size ≤ q → A q := fun q h => by rw [← hAe]; exact Or.inr h
  have hS : va_S A s.heap s.heap [] := va_S.rf
  have hP : va_P (dC, dI) vwCl (oW cq Z) s.heap := hP
  have hl := lv_entry ([.ref a1, .int x2]) (n := 4) (Nat.le_of_ble_eq_true rfl)
  rw [lg_entry_eq]
  generalize (lg_sl ([.ref a1, .int x2]) ++ List.replicate (4 - (lg_sl ([.ref a1, .int x2])).length) Slot.unset).toArray = ls at hl ⊢
  have hl : lv_has ls 4 [(0, .ref a1), (1, .int x2)] := hl
  refine lv_iconst (v := 0) hx hb dJ7_fill_53178_0 (by decide +kernel) ?_
  refine lv_istore_n (lv' := [(2, .int 0), (0, .ref a1), (1, .int x2)]) hx hb dJ7_fill_53178_1 rfl hl (by decide +kernel) rfl (fun ls hl => ?_)
  refine lv_aload_n hx hb dJ7_fill_53178_2 rfl (lv_at hl 1 rfl) ?_
  obtain ⟨q_1, hq_1⟩ := og (cq := cq) ta1.1 (oE_a1 (n := 10) ta1.2 (by decide +kernel))
  refine va_alen (v := 10) hx hb hK hP q_1 0 hq_1 rfl (show Int32.ofNat 10 = 10 by decide) dJ7_fill_53178_3 ?_
  refine lv_istore_n (lv' := [(3, .int 10), (2, .int 0), (0, .ref a1), (1, .int x2)]) hx hb dJ7_fill_53178_4 rfl hl (by decide +kernel) rfl (fun ls hl => ?_)
  have cut_2 : ∀ (n : Nat) (y_3 : Int32) (S_4 : oS) (H : Heap) (locs : List Loc) (ls : Array Slot), 10 - y_3.toInt ≤ (n : Int) → (0 ≤ y_3.toInt ∧ y_3.toInt ≤ 10) → oInv S_4 → oX [2110] Z S_4 → va_P (dC, dI) vwCl (oW cq S_4) H → va_D A (oW cq S_4) → va_S A s.heap H locs → lv_has ls 4 [(2, .int y_3), (3, .int 10), (0, .ref a1), (1, .int x2)] → W p l e (headSpec wsJ7_fill_53178 { frames := 0, cells := 0, slots := 0, locals := 0 }).room s m #[Value.ref a1, Value.int x2] below meth c H locs 0 0 (MQ below (va_Qv (fun (u : oS) => oInv u ∧ oX [2110] Z u) (fun u t => va_P (dC, dI) vwCl (oW cq u) t.heap ∧ va_K (dC, dI) vwCl (oT cq) t ∧ va_D A (oW cq u)) A) #[Value.ref a1, Value.int x2] s 0 0 A) (F0 m 5 ls []) := by
    intro n
    induction n using Nat.strongRecOn with
    | ind n ih =>
      intro y_3 S_4 H locs ls hm hy_3 hIS_4 XS_4 hP hD hS hl
      have YS_4 : oX [2110] Z S_4 := oX.st oX.rf XS_4 (fun _ q => q)
      refine lv_iload_n hx hb dJ7_fill_53178_5 rfl (lv_at hl 0 rfl) ?_
      refine lv_iload_n hx hb dJ7_fill_53178_6 rfl (lv_at hl 1 rfl) ?_
      refine lv_icmp_ge (tgt := 20) hx hb dJ7_fill_53178_7 (by decide +kernel) (fun c_5 => ?_) (fun c_5 => ?_)
      · have dc_5 := c_le (a := 10) (b := y_3.toInt) (by decide +kernel) rfl c_5
        exact W.vret hx hb hr (fun t ht hW => ⟨⟨S_4, rfl, ⟨hIS_4, YS_4⟩, ⟨by rw [ht]; exact hP, va_K.moved hW.alike hK, hD⟩⟩, hS.F ht⟩) hS.2.2 dJ7_fill_53178_20
      · have dc_5 := c_nle (a := 10) (b := y_3.toInt) (by decide +kernel) rfl c_5
        refine lv_aload_n hx hb dJ7_fill_53178_10 rfl (lv_at hl 2 rfl) ?_
        refine lv_iload_n hx hb dJ7_fill_53178_11 rfl (lv_at hl 0 rfl) ?_
        refine lv_iload_n hx hb dJ7_fill_53178_12 rfl (lv_at hl 3 rfl) ?_
        have t_6 : oty S_4 a1 110 := (oX.ty XS_4 ta1)
        obtain ⟨q_7, hq_7⟩ := og (cq := cq) t_6.1 (oE_a1 (n := 10) t_6.2 (by decide +kernel))
        refine va_iast hx hb hK hP hD hS q_7 0 hq_7 rfl (vp_in_iff.mpr (by omega)) dJ7_fill_53178_13 (fun H locs hP1 hD1 hS => ?_)
        obtain ⟨S_8, eS_8⟩ : ∃ zq, zq = setI S_4 a1 (y_3 : Int32).toNatClampNeg x2 := ⟨_, rfl⟩
        have hP : va_P (dC, dI) vwCl (oW cq S_8) H := by rw [eS_8]; exact cP (oset t_6.1 hq_7 hD rfl (he_a1 (n := 10) t_6.2 (by decide +kernel)) neI) hP1
        have hD : va_D A (oW cq S_8) := by rw [eS_8]; exact cD (oset t_6.1 hq_7 hD rfl (he_a1 (n := 10) t_6.2 (by decide +kernel)) neI) hD1
        clear hP1 hD1
        have hIS_8 : oInv S_8 := by rw [eS_8]; exact oInv.A (k := 110) hIS_4 t_6.2 (by decide +kernel)
        have XS_8 : oX [2110] S_4 S_8 := by rw [eS_8]; exact oX.I (k := 110) (key := 2110) t_6.2 rfl (List.mem_singleton.mpr rfl)
        have X_9 : oX [2110] Z S_8 := oX.st YS_4 XS_8 (by decide +kernel)
        obtain ⟨x_10, ex_10⟩ : ∃ zq : Int32, y_3 + 1 = zq := ⟨_, rfl⟩
        have hx_10 : x_10.toInt = y_3.toInt + 1 := (iv_to ex_10).symm.trans (ad_i rfl (by decide +kernel) (by omega) (by omega))
        refine lv_iinc (v := x_10) (lv' := [(2, .int x_10), (3, .int 10), (0, .ref a1), (1, .int x2)]) hx hb dJ7_fill_53178_14 hl (k := 0) rfl ex_10 (by decide +kernel) rfl (fun ls hl => ?_)
        clear ex_10
        refine lv_goto (tgt := 5) hx hb dJ7_fill_53178_17 (by decide +kernel) ?_
        exact ih (n - 1) (by omega) x_10 S_8 _ _ ls (by omega) (by omega) hIS_8 (oX.st (oX.st oX.rf XS_4 (by decide +kernel)) XS_8 (by decide +kernel)) hP hD hS (lv_sub hl [0, 1, 2, 3] rfl)
  have kc_11 : (0 : Int32).toInt = 0 := by decide
  exact cut_2 11 0 Z _ _ ls (by omega) (by decide +kernel) gI oX.rf hP hD hS (lv_sub hl [1, 0, 2, 3] rfl)
set_option maxHeartbeats 4000000 in
set_option maxRecDepth 100000 in
theorem c_J7_fill_d0a16 (l : Launch) (dC : Nat → ClassId) (dI : Nat → Nat → Nat) (sz : Nat) (cq : Nat → ClassId) (Z : oS) (gI : oInv Z) (a1 : Nat) (ta1 : oty Z a1 18) (x2 : Int64) : Met l yJ7_fill_d0a16 wsJ7_fill_d0a16 ({ frames := 0, cells := 0, slots := 0, locals := 0 }) (va_Pc [.ref a1, .long x2] (pcW (dC, dI) (oT cq) (oW cq Z) sz)) (va_Qv (fun (u : oS) => oInv u ∧ oX [2018] Z u) (fun u t => va_P (dC, dI) vwCl (oW cq u) t.heap ∧ va_K (dC, dI) vwCl (oT cq) t ∧ va_D (va_A (oW cq Z) sz) (oW cq u)) (va_A (oW cq Z) sz)) 0 0 (va_A (oW cq Z) sz) := by
  refine Met.ofW (cc := cJ7_fill_d0a16) (maxL := 5) (ret := none) (by decide +kernel) rfl ?_
  intro p e s m args below meth c s₁ B hml hv
  obtain ⟨rfl, hsz, hP, hK, hD0⟩ := hv
  have hx := B.exec
  have hb := B.bytes
  have hr := B.returns
  have hts := atoms_spec (ws := wsJ7_fill_d0a16) B.pre
  have hown : s.vm.findClass RJ7 = some m.cls := findClass_of_methodNamed B.named
  have hlocks := B.notSynchronized
  subst hsz
  have hD := hD0.self (sz := s.heap.size)
  generalize hAe : va_A (oW cq Z) s.heap.size = A at hD ⊢
  have hA : ∀ q : Nat, s.heap.size ≤ q → A q := fun q h => by rw [← hAe]; exact Or.inr h
  have hS : va_S A s.heap s.heap [] := va_S.rf
  have hP : va_P (dC, dI) vwCl (oW cq Z) s.heap := hP
  have hl := lv_entry ([.ref a1, .long x2]) (n := 5) (Nat.le_of_ble_eq_true rfl)
  rw [lg_entry_eq]
  generalize (lg_sl ([.ref a1, .long x2]) ++ List.replicate (5 - (lg_sl ([.ref a1, .long x2])).length) Slot.unset).toArray = ls at hl ⊢
  have hl : lv_has ls 5 [(0, .ref a1), (1, .long x2)] := hl
  refine lv_iconst (v := 0) hx hb dJ7_fill_d0a16_0 (by decide +kernel) ?_
  refine lv_istore_n (lv' := [(3, .int 0), (0, .ref a1), (1, .long x2)]) hx hb dJ7_fill_d0a16_1 rfl hl (by decide +kernel) rfl (fun ls hl => ?_)
  refine lv_aload_n hx hb dJ7_fill_d0a16_2 rfl (lv_at hl 1 rfl) ?_
  obtain ⟨q_1, hq_1⟩ := og (cq := cq) ta1.1 (oE_18 ta1.2)
  refine va_alen (v := 81) hx hb hK hP q_1 1 hq_1 rfl (show Int32.ofNat 81 = 81 by decide) dJ7_fill_d0a16_3 ?_
  refine lv_istore (lv' := [(4, .int 81), (3, .int 0), (0, .ref a1), (1, .long x2)]) hx hb dJ7_fill_d0a16_4 hl (by decide +kernel) rfl (fun ls hl => ?_)
  have cut_2 : ∀ (n : Nat) (y_3 : Int32) (S_4 : oS) (H : Heap) (locs : List Loc) (ls : Array Slot), 81 - y_3.toInt ≤ (n : Int) → (0 ≤ y_3.toInt ∧ y_3.toInt ≤ 81) → oInv S_4 → oX [2018] Z S_4 → va_P (dC, dI) vwCl (oW cq S_4) H → va_D A (oW cq S_4) → va_S A s.heap H locs → lv_has ls 5 [(3, .int y_3), (4, .int 81), (0, .ref a1), (1, .long x2)] → W p l e (headSpec wsJ7_fill_d0a16 { frames := 0, cells := 0, slots := 0, locals := 0 }).room s m #[Value.ref a1, Value.long x2] below meth c H locs 0 0 (MQ below (va_Qv (fun (u : oS) => oInv u ∧ oX [2018] Z u) (fun u t => va_P (dC, dI) vwCl (oW cq u) t.heap ∧ va_K (dC, dI) vwCl (oT cq) t ∧ va_D A (oW cq u)) A) #[Value.ref a1, Value.long x2] s 0 0 A) (F0 m 6 ls []) := by
    intro n
    induction n using Nat.strongRecOn with
    | ind n ih =>
      intro y_3 S_4 H locs ls hm hy_3 hIS_4 XS_4 hP hD hS hl
      have YS_4 : oX [2018] Z S_4 := oX.st oX.rf XS_4 (fun _ q => q)
      refine lv_iload_n hx hb dJ7_fill_d0a16_6 rfl (lv_at hl 0 rfl) ?_
      refine lv_iload hx hb dJ7_fill_d0a16_7 (lv_at hl 1 rfl) ?_
      refine lv_icmp_ge (tgt := 22) hx hb dJ7_fill_d0a16_9 (by decide +kernel) (fun c_5 => ?_) (fun c_5 => ?_)
      · have dc_5 := c_le (a := 81) (b := y_3.toInt) (by decide +kernel) rfl c_5
        exact W.vret hx hb hr (fun t ht hW => ⟨⟨S_4, rfl, ⟨hIS_4, YS_4⟩, ⟨by rw [ht]; exact hP, va_K.moved hW.alike hK, hD⟩⟩, hS.F ht⟩) hS.2.2 dJ7_fill_d0a16_22
      · have dc_5 := c_nle (a := 81) (b := y_3.toInt) (by decide +kernel) rfl c_5
        refine lv_aload_n hx hb dJ7_fill_d0a16_12 rfl (lv_at hl 2 rfl) ?_
        refine lv_iload_n hx hb dJ7_fill_d0a16_13 rfl (lv_at hl 0 rfl) ?_
        refine lv_lload_n hx hb dJ7_fill_d0a16_14 rfl (lv_at hl 3 rfl) ?_
        have t_6 : oty S_4 a1 18 := (oX.ty XS_4 ta1)
        obtain ⟨q_7, hq_7⟩ := og (cq := cq) t_6.1 (oE_18 t_6.2)
        refine va_last hx hb hK hP hD hS q_7 1 hq_7 rfl (vp_in_iff.mpr (by omega)) dJ7_fill_d0a16_15 (fun H locs hP1 hD1 hS => ?_)
        obtain ⟨S_8, eS_8⟩ : ∃ zq, zq = setJ S_4 a1 (y_3 : Int32).toNatClampNeg x2 := ⟨_, rfl⟩
        have hP : va_P (dC, dI) vwCl (oW cq S_8) H := by rw [eS_8]; exact cP (oset t_6.1 hq_7 hD rfl (he_18 t_6.2) neJ) hP1
        have hD : va_D A (oW cq S_8) := by rw [eS_8]; exact cD (oset t_6.1 hq_7 hD rfl (he_18 t_6.2) neJ) hD1
        clear hP1 hD1
        have hIS_8 : oInv S_8 := by rw [eS_8]; exact oInv.J hIS_4
        have XS_8 : oX [2018] S_4 S_8 := by rw [eS_8]; exact oX.J (k := 18) (key := 2018) t_6.2 (fun _ => rfl) (List.mem_singleton.mpr rfl)
        have X_9 : oX [2018] Z S_8 := oX.st YS_4 XS_8 (by decide +kernel)
        obtain ⟨x_10, ex_10⟩ : ∃ zq : Int32, y_3 + 1 = zq := ⟨_, rfl⟩
        have hx_10 : x_10.toInt = y_3.toInt + 1 := (iv_to ex_10).symm.trans (ad_i rfl (by decide +kernel) (by omega) (by omega))
        refine lv_iinc (v := x_10) (lv' := [(3, .int x_10), (4, .int 81), (0, .ref a1), (1, .long x2)]) hx hb dJ7_fill_d0a16_16 hl (k := 0) rfl ex_10 (by decide +kernel) rfl (fun ls hl => ?_)
        clear ex_10
        refine lv_goto (tgt := 6) hx hb dJ7_fill_d0a16_19 (by decide +kernel) ?_
        exact ih (n - 1) (by omega) x_10 S_8 _ _ ls (by omega) (by omega) hIS_8 (oX.st (oX.st oX.rf XS_4 (by decide +kernel)) XS_8 (by decide +kernel)) hP hD hS (lv_sub hl [0, 1, 2, 3] rfl)
  have kc_11 : (0 : Int32).toInt = 0 := by decide
  exact cut_2 82 0 Z _ _ ls (by omega) (by decide +kernel) gI oX.rf hP hD hS (lv_sub hl [1, 0, 2, 3] rfl)
set_option maxHeartbeats 4000000 in
set_option maxRecDepth 100000 in
theorem c_X7_shorten (l : Launch) (dC : Nat → ClassId) (dI : Nat → Nat → Nat) (sz : Nat) (cq : Nat → ClassId) (Z : oS) (gI : oInv Z) (o : Nat) (to : oty Z o 7) : Met l yX7_shorten wsX7_shorten ({ frames := 0, cells := 0, slots := 0, locals := 0 }) (va_Pc [.ref o] (pcW (dC, dI) (oT cq) (oW cq Z) sz)) (va_Qv (fun (u : oS) => oInv u ∧ oX [2110] Z u) (fun u t => va_P (dC, dI) vwCl (oW cq u) t.heap ∧ va_K (dC, dI) vwCl (oT cq) t ∧ va_D (va_A (oW cq Z) sz) (oW cq u)) (va_A (oW cq Z) sz)) 0 0 (va_A (oW cq Z) sz) := by
  refine Met.ofW (cc := cX7_shorten) (maxL := 4) (ret := none) (by decide +kernel) rfl ?_
  intro p e s m args below meth c s₁ B hml hv
  obtain ⟨rfl, hsz, hP, hK, hD0⟩ := hv
  have hx := B.exec
  have hb := B.bytes
  have hr := B.returns
  have hts := atoms_spec (ws := wsX7_shorten) B.pre
  have hown : s.vm.findClass RX7 = some m.cls := findClass_of_methodNamed B.named
  have hlocks := B.notSynchronized
  subst hsz
  have hD := hD0.self (sz := s.heap.size)
  generalize hAe : va_A (oW cq Z) s.heap.size = A at hD ⊢
  have hA : ∀ q : Nat, s.heap.size ≤ q → A q := fun q h => by rw [← hAe]; exact Or.inr h
  have hS : va_S A s.heap s.heap [] := va_S.rf
  have hP : va_P (dC, dI) vwCl (oW cq Z) s.heap := hP
  have hl := lv_entry ([.ref o]) (n := 4) (Nat.le_of_ble_eq_true rfl)
  rw [lg_entry_eq]
  generalize (lg_sl ([.ref o]) ++ List.replicate (4 - (lg_sl ([.ref o])).length) Slot.unset).toArray = ls at hl ⊢
  have hl : lv_has ls 4 [(0, .ref o)] := hl
  refine lv_iconst (v := 0) hx hb dX7_shorten_0 (by decide +kernel) ?_
  refine lv_istore_n (lv' := [(1, .int 0), (0, .ref o)]) hx hb dX7_shorten_1 rfl hl (by decide +kernel) rfl (fun ls hl => ?_)
  have cut_1 : ∀ (n : Nat) (y_2 : Int32) (S_3 : oS) (H : Heap) (locs : List Loc) (ls : Array Slot), 10 - y_2.toInt ≤ (n : Int) → (0 ≤ y_2.toInt ∧ y_2.toInt ≤ 10) → oInv S_3 → oX [2110] Z S_3 → va_P (dC, dI) vwCl (oW cq S_3) H → va_D A (oW cq S_3) → va_S A s.heap H locs → lv_has ls 4 [(1, .int y_2), (0, .ref o)] → W p l e (headSpec wsX7_shorten { frames := 0, cells := 0, slots := 0, locals := 0 }).room s m #[Value.ref o] below meth c H locs 0 0 (MQ below (va_Qv (fun (u : oS) => oInv u ∧ oX [2110] Z u) (fun u t => va_P (dC, dI) vwCl (oW cq u) t.heap ∧ va_K (dC, dI) vwCl (oT cq) t ∧ va_D A (oW cq u)) A) #[Value.ref o] s 0 0 A) (F0 m 2 ls []) := by
    intro n
    induction n using Nat.strongRecOn with
    | ind n ih =>
      intro y_2 S_3 H locs ls hm hy_2 hIS_3 XS_3 hP hD hS hl
      have YS_3 : oX [2110] Z S_3 := oX.st oX.rf XS_3 (fun _ q => q)
      refine lv_iload_n hx hb dX7_shorten_2 rfl (lv_at hl 0 rfl) ?_
      refine lv_bipush (v := 10) hx hb dX7_shorten_3 (by decide +kernel) ?_
      refine lv_icmp_ge (tgt := 75) hx hb dX7_shorten_5 (by decide +kernel) (fun c_4 => ?_) (fun c_4 => ?_)
      · have dc_4 := c_le (a := 10) (b := y_2.toInt) (by decide +kernel) rfl c_4
        exact W.vret hx hb hr (fun t ht hW => ⟨⟨S_3, rfl, ⟨hIS_3, YS_3⟩, ⟨by rw [ht]; exact hP, va_K.moved hW.alike hK, hD⟩⟩, hS.F ht⟩) hS.2.2 dX7_shorten_75
      · have dc_4 := c_nle (a := 10) (b := y_2.toInt) (by decide +kernel) rfl c_4
        refine lv_iconst (v := 0) hx hb dX7_shorten_8 (by decide +kernel) ?_
        refine lv_istore_n (lv' := [(2, .int 0), (1, .int y_2), (0, .ref o)]) hx hb dX7_shorten_9 rfl hl (by decide +kernel) rfl (fun ls hl => ?_)
        have cut_5 : ∀ (n2 : Nat) (y_6 : Int32) (S_7 : oS) (H : Heap) (locs : List Loc) (ls : Array Slot), 10 - y_6.toInt ≤ (n2 : Int) → (0 ≤ y_6.toInt ∧ y_6.toInt ≤ 10) → oInv S_7 → oX [2110] S_3 S_7 → va_P (dC, dI) vwCl (oW cq S_7) H → va_D A (oW cq S_7) → va_S A s.heap H locs → lv_has ls 4 [(2, .int y_6), (1, .int y_2), (0, .ref o)] → W p l e (headSpec wsX7_shorten { frames := 0, cells := 0, slots := 0, locals := 0 }).room s m #[Value.ref o] below meth c H locs 0 0 (MQ below (va_Qv (fun (u : oS) => oInv u ∧ oX [2110] Z u) (fun u t => va_P (dC, dI) vwCl (oW cq u) t.heap ∧ va_K (dC, dI) vwCl (oT cq) t ∧ va_D A (oW cq u)) A) #[Value.ref o] s 0 0 A) (F0 m 10 ls []) := by
          intro n2
          induction n2 using Nat.strongRecOn with
          | ind n2 ih2 =>
            intro y_6 S_7 H locs ls hm hy_6 hIS_7 XS_7 hP hD hS hl
            have YS_7 : oX [2110] Z S_7 := oX.st YS_3 XS_7 (fun _ q => q)
            refine lv_iload_n hx hb dX7_shorten_10 rfl (lv_at hl 0 rfl) ?_
            refine lv_bipush (v := 10) hx hb dX7_shorten_11 (by decide +kernel) ?_
            refine lv_icmp_ge (tgt := 69) hx hb dX7_shorten_13 (by decide +kernel) (fun c_8 => ?_) (fun c_8 => ?_)
            · have dc_8 := c_le (a := 10) (b := y_6.toInt) (by decide +kernel) rfl c_8
              obtain ⟨x_9, ex_9⟩ : ∃ zq : Int32, y_2 + 1 = zq := ⟨_, rfl⟩
              have hx_9 : x_9.toInt = y_2.toInt + 1 := (iv_to ex_9).symm.trans (ad_i rfl (by decide +kernel) (by omega) (by omega))
              refine lv_iinc (v := x_9) (lv' := [(1, .int x_9), (2, .int y_6), (0, .ref o)]) hx hb dX7_shorten_69 hl (k := 1) rfl ex_9 (by decide +kernel) rfl (fun ls hl => ?_)
              clear ex_9
              refine lv_goto (tgt := 2) hx hb dX7_shorten_72 (by decide +kernel) ?_
              exact ih (n - 1) (by omega) x_9 S_7 _ _ ls (by omega) (by omega) hIS_7 (oX.st (oX.st oX.rf XS_3 (by decide +kernel)) XS_7 (by decide +kernel)) hP hD hS (lv_sub hl [0, 2] rfl)
            · have dc_8 := c_nle (a := 10) (b := y_6.toInt) (by decide +kernel) rfl c_8
              refine lv_aload_n hx hb dX7_shorten_16 rfl (lv_at hl 2 rfl) ?_
              have t_10 : oty S_7 o 7 := (oX.ty XS_7 (oX.ty XS_3 to))
              obtain ⟨q_11, hq_11⟩ := og (cq := cq) t_10.1 (oE_7 t_10.2)
              obtain ⟨b_12, hb_12⟩ := oInv.nn (i := 0) hIS_7 t_10 rfl
              refine va_get (D := (dC, dI)) (ci := 7) (v := .ref b_12) (C := RX7) (T := TX7) (N := 2) hx hb hts in_wsX7_shorten_X7 hown hK hP q_11 hq_11 rfl 0 (by decide +kernel) (hts (.fieldLink RX7 9 "ShipOffice$Sea" "miles" "[I") iw_X7_shorten_1) (fun _ h9 => h9) (o_rd hb_12) dX7_shorten_17 ?_
              have tb_12 : oty S_7 b_12 200 := oInv.rd hIS_7 t_10.2 hb_12 rfl rfl
              refine lv_iload_n hx hb dX7_shorten_20 rfl (lv_at hl 1 rfl) ?_
              refine lv_bipush (v := 10) hx hb dX7_shorten_21 (by decide +kernel) ?_
              refine lv_imul hx hb dX7_shorten_23 ?_
              refine lv_topi (fun x_13 ex_13 => ?_)
              have hx_13 : x_13.toInt = y_2.toInt * 10 := (iv_to ex_13).trans (mu_i rfl (by decide +kernel) (by omega) (by omega))
              clear ex_13
              refine lv_iload_n hx hb dX7_shorten_24 rfl (lv_at hl 0 rfl) ?_
              refine lv_iadd hx hb dX7_shorten_25 ?_
              refine lv_topi (fun x_14 ex_14 => ?_)
              have hx_14 : x_14.toInt = x_13.toInt + y_6.toInt := (iv_to ex_14).trans (ad_i rfl rfl (by omega) (by omega))
              clear ex_14
              obtain ⟨q_15, hq_15⟩ := og (cq := cq) tb_12.1 (oE_a1 (n := 100) tb_12.2 (by decide +kernel))
              refine va_iald hx hb hK hP q_15 0 hq_15 rfl (vp_in_iff.mpr (by omega)) dX7_shorten_26 ?_
              refine lv_topi (fun x_16 ex_16 => ?_)
              clear ex_16
              refine lv_istore_n (lv' := [(3, .int x_16), (2, .int y_6), (1, .int y_2), (0, .ref o)]) hx hb dX7_shorten_27 rfl hl (by decide +kernel) rfl (fun ls hl => ?_)
              refine lv_iload_n hx hb dX7_shorten_28 rfl (lv_at hl 0 rfl) ?_
              refine lv_if_le (tgt := 63) hx hb dX7_shorten_29 (by decide +kernel) (fun c_17 => ?_) (fun c_17 => ?_)
              · have dc_17 := c_le (a := x_16.toInt) (b := 0) rfl (by decide +kernel) c_17
                obtain ⟨x_18, ex_18⟩ : ∃ zq : Int32, y_6 + 1 = zq := ⟨_, rfl⟩
                have hx_18 : x_18.toInt = y_6.toInt + 1 := (iv_to ex_18).symm.trans (ad_i rfl (by decide +kernel) (by omega) (by omega))
                refine lv_iinc (v := x_18) (lv' := [(2, .int x_18), (3, .int x_16), (1, .int y_2), (0, .ref o)]) hx hb dX7_shorten_63 hl (k := 1) rfl ex_18 (by decide +kernel) rfl (fun ls hl => ?_)
                clear ex_18
                refine lv_goto (tgt := 10) hx hb dX7_shorten_66 (by decide +kernel) ?_
                exact ih2 (n2 - 1) (by omega) x_18 S_7 _ _ ls (by omega) (by omega) hIS_7 (oX.st oX.rf XS_7 (by decide +kernel)) hP hD hS (lv_sub hl [0, 2, 3] rfl)
              · have dc_17 := c_nle (a := x_16.toInt) (b := 0) rfl (by decide +kernel) c_17
                refine lv_aload_n hx hb dX7_shorten_32 rfl (lv_at hl 3 rfl) ?_
                obtain ⟨b_19, hb_19⟩ := oInv.nn (i := 1) hIS_7 t_10 rfl
                refine va_get (D := (dC, dI)) (ci := 7) (v := .ref b_19) (C := RX7) (T := TX7) (N := 2) hx hb hts in_wsX7_shorten_X7 hown hK hP q_11 hq_11 rfl 1 (by decide +kernel) (hts (.fieldLink RX7 15 "ShipOffice$Sea" "least" "[I") iw_X7_shorten_2) (fun _ h9 => h9) (o_rd hb_19) dX7_shorten_33 ?_
                have tb_19 : oty S_7 b_19 110 := oInv.rd hIS_7 t_10.2 hb_19 rfl rfl
                refine lv_iload_n hx hb dX7_shorten_36 rfl (lv_at hl 2 rfl) ?_
                obtain ⟨q_20, hq_20⟩ := og (cq := cq) tb_19.1 (oE_a1 (n := 10) tb_19.2 (by decide +kernel))
                refine va_iald hx hb hK hP q_20 0 hq_20 rfl (vp_in_iff.mpr (by omega)) dX7_shorten_37 ?_
                refine lv_topi (fun x_21 ex_21 => ?_)
                clear ex_21
                refine lv_iload_n hx hb dX7_shorten_38 rfl (lv_at hl 0 rfl) ?_
                refine lv_iadd hx hb dX7_shorten_39 ?_
                refine lv_topi (fun x_22 ex_22 => ?_)
                clear ex_22
                refine lv_aload_n hx hb dX7_shorten_40 rfl (lv_at hl 3 rfl) ?_
                refine va_get (D := (dC, dI)) (ci := 7) (v := .ref b_19) (C := RX7) (T := TX7) (N := 2) hx hb hts in_wsX7_shorten_X7 hown hK hP q_11 hq_11 rfl 1 (by decide +kernel) (hts (.fieldLink RX7 15 "ShipOffice$Sea" "least" "[I") iw_X7_shorten_2) (fun _ h9 => h9) (o_rd hb_19) dX7_shorten_41 ?_
                refine lv_iload_n hx hb dX7_shorten_44 rfl (lv_at hl 1 rfl) ?_
                refine va_iald hx hb hK hP q_20 0 hq_20 rfl (vp_in_iff.mpr (by omega)) dX7_shorten_45 ?_
                refine lv_topi (fun x_23 ex_23 => ?_)
                clear ex_23
                refine lv_icmp_ge (tgt := 63) hx hb dX7_shorten_46 (by decide +kernel) (fun c_24 => ?_) (fun c_24 => ?_)
                · have dc_24 := c_le (a := x_23.toInt) (b := x_22.toInt) rfl rfl c_24
                  obtain ⟨x_25, ex_25⟩ : ∃ zq : Int32, y_6 + 1 = zq := ⟨_, rfl⟩
                  have hx_25 : x_25.toInt = y_6.toInt + 1 := (iv_to ex_25).symm.trans (ad_i rfl (by decide +kernel) (by omega) (by omega))
                  refine lv_iinc (v := x_25) (lv' := [(2, .int x_25), (3, .int x_16), (1, .int y_2), (0, .ref o)]) hx hb dX7_shorten_63 hl (k := 1) rfl ex_25 (by decide +kernel) rfl (fun ls hl => ?_)
                  clear ex_25
                  refine lv_goto (tgt := 10) hx hb dX7_shorten_66 (by decide +kernel) ?_
                  exact ih2 (n2 - 1) (by omega) x_25 S_7 _ _ ls (by omega) (by omega) hIS_7 (oX.st oX.rf XS_7 (by decide +kernel)) hP hD hS (lv_sub hl [0, 2, 3] rfl)
                · have dc_24 := c_nle (a := x_23.toInt) (b := x_22.toInt) rfl rfl c_24
                  refine lv_aload_n hx hb dX7_shorten_49 rfl (lv_at hl 3 rfl) ?_
                  refine va_get (D := (dC, dI)) (ci := 7) (v := .ref b_19) (C := RX7) (T := TX7) (N := 2) hx hb hts in_wsX7_shorten_X7 hown hK hP q_11 hq_11 rfl 1 (by decide +kernel) (hts (.fieldLink RX7 15 "ShipOffice$Sea" "least" "[I") iw_X7_shorten_2) (fun _ h9 => h9) (o_rd hb_19) dX7_shorten_50 ?_
                  refine lv_iload_n hx hb dX7_shorten_53 rfl (lv_at hl 1 rfl) ?_
                  refine lv_aload_n hx hb dX7_shorten_54 rfl (lv_at hl 3 rfl) ?_
                  refine va_get (D := (dC, dI)) (ci := 7) (v := .ref b_19) (C := RX7) (T := TX7) (N := 2) hx hb hts in_wsX7_shorten_X7 hown hK hP q_11 hq_11 rfl 1 (by decide +kernel) (hts (.fieldLink RX7 15 "ShipOffice$Sea" "least" "[I") iw_X7_shorten_2) (fun _ h9 => h9) (o_rd hb_19) dX7_shorten_55 ?_
                  refine lv_iload_n hx hb dX7_shorten_58 rfl (lv_at hl 2 rfl) ?_
                  refine va_iald hx hb hK hP q_20 0 hq_20 rfl (vp_in_iff.mpr (by omega)) dX7_shorten_59 ?_
                  refine lv_topi (fun x_26 ex_26 => ?_)
                  clear ex_26
                  refine lv_iload_n hx hb dX7_shorten_60 rfl (lv_at hl 0 rfl) ?_
                  refine lv_iadd hx hb dX7_shorten_61 ?_
                  refine lv_topi (fun x_27 ex_27 => ?_)
                  clear ex_27
                  refine va_iast hx hb hK hP hD hS q_20 0 hq_20 rfl (vp_in_iff.mpr (by omega)) dX7_shorten_62 (fun H locs hP1 hD1 hS => ?_)
                  obtain ⟨S_28, eS_28⟩ : ∃ zq, zq = setI S_7 b_19 (y_6 : Int32).toNatClampNeg x_27 := ⟨_, rfl⟩
                  have hP : va_P (dC, dI) vwCl (oW cq S_28) H := by rw [eS_28]; exact cP (oset tb_19.1 hq_20 hD rfl (he_a1 (n := 10) tb_19.2 (by decide +kernel)) neI) hP1
                  have hD : va_D A (oW cq S_28) := by rw [eS_28]; exact cD (oset tb_19.1 hq_20 hD rfl (he_a1 (n := 10) tb_19.2 (by decide +kernel)) neI) hD1
                  clear hP1 hD1
                  have hIS_28 : oInv S_28 := by rw [eS_28]; exact oInv.A (k := 110) hIS_7 tb_19.2 (by decide +kernel)
                  have XS_28 : oX [2110] S_7 S_28 := by rw [eS_28]; exact oX.I (k := 110) (key := 2110) tb_19.2 rfl (List.mem_singleton.mpr rfl)
                  have X_29 : oX [2110] Z S_28 := oX.st YS_7 XS_28 (by decide +kernel)
                  obtain ⟨x_30, ex_30⟩ : ∃ zq : Int32, y_6 + 1 = zq := ⟨_, rfl⟩
                  have hx_30 : x_30.toInt = y_6.toInt + 1 := (iv_to ex_30).symm.trans (ad_i rfl (by decide +kernel) (by omega) (by omega))
                  refine lv_iinc (v := x_30) (lv' := [(2, .int x_30), (3, .int x_16), (1, .int y_2), (0, .ref o)]) hx hb dX7_shorten_63 hl (k := 1) rfl ex_30 (by decide +kernel) rfl (fun ls hl => ?_)
                  clear ex_30
                  refine lv_goto (tgt := 10) hx hb dX7_shorten_66 (by decide +kernel) ?_
                  exact ih2 (n2 - 1) (by omega) x_30 S_28 _ _ ls (by omega) (by omega) hIS_28 (oX.st (oX.st oX.rf XS_7 (by decide +kernel)) XS_28 (by decide +kernel)) hP hD hS (lv_sub hl [0, 2, 3] rfl)
        have kc_31 : (0 : Int32).toInt = 0 := by decide
        exact cut_5 11 0 S_3 _ _ ls (by omega) (by decide +kernel) hIS_3 oX.rf hP hD hS (lv_sub hl [0, 1, 2] rfl)
  have kc_32 : (0 : Int32).toInt = 0 := by decide
  exact cut_1 11 0 Z _ _ ls (by omega) (by decide +kernel) gI oX.rf hP hD hS (lv_sub hl [0, 1] rfl)
set_option maxHeartbeats 4000000 in
set_option maxRecDepth 100000 in
theorem c_X7_way (l : Launch) (dC : Nat → ClassId) (dI : Nat → Nat → Nat) (sz : Nat) (cq : Nat → ClassId) (Z : oS) (gI : oInv Z) (o : Nat) (to : oty Z o 7) (x1 : Int32) (hx1 : 0 ≤ x1.toInt ∧ x1.toInt ≤ 9) (x2 : Int32) (hx2 : 0 ≤ x2.toInt ∧ x2.toInt ≤ 9) : Met l yX7_way wsX7_way ({ frames := 1, cells := 0, slots := 0, locals := 23 }) (va_Pc [.ref o, .int x1, .int x2] (pcW (dC, dI) (oT cq) (oW cq Z) sz)) (va_Qi (fun (r : Int32) (u : oS) => oInv u ∧ oX [2110] Z u) (fun u t => va_P (dC, dI) vwCl (oW cq u) t.heap ∧ va_K (dC, dI) vwCl (oT cq) t ∧ va_D (va_A (oW cq Z) sz) (oW cq u)) (va_A (oW cq Z) sz)) 0 0 (va_A (oW cq Z) sz) := by
  refine Met.ofW (cc := cX7_way) (maxL := 4) (ret := (some .int)) (by decide +kernel) rfl ?_
  intro p e s m args below meth c s₁ B hml hv
  obtain ⟨rfl, hsz, hP, hK, hD0⟩ := hv
  have hx := B.exec
  have hb := B.bytes
  have hr := B.returns
  have hts := atoms_spec (ws := wsX7_way) B.pre
  have hown : s.vm.findClass RX7 = some m.cls := findClass_of_methodNamed B.named
  have hlocks := B.notSynchronized
  subst hsz
  have hD := hD0.self (sz := s.heap.size)
  generalize hAe : va_A (oW cq Z) s.heap.size = A at hD ⊢
  have hA : ∀ q : Nat, s.heap.size ≤ q → A q := fun q h => by rw [← hAe]; exact Or.inr h
  have hS : va_S A s.heap s.heap [] := va_S.rf
  have hP : va_P (dC, dI) vwCl (oW cq Z) s.heap := hP
  have hl := lv_entry ([.ref o, .int x1, .int x2]) (n := 4) (Nat.le_of_ble_eq_true rfl)
  rw [lg_entry_eq]
  generalize (lg_sl ([.ref o, .int x1, .int x2]) ++ List.replicate (4 - (lg_sl ([.ref o, .int x1, .int x2])).length) Slot.unset).toArray = ls at hl ⊢
  have hl : lv_has ls 4 [(0, .ref o), (1, .int x1), (2, .int x2)] := hl
  refine lv_aload_n hx hb dX7_way_0 rfl (lv_at hl 0 rfl) ?_
  obtain ⟨q_1, hq_1⟩ := og (cq := cq) to.1 (oE_7 to.2)
  obtain ⟨b_2, hb_2⟩ := oInv.nn (i := 1) gI to rfl
  refine va_get (D := (dC, dI)) (ci := 7) (v := .ref b_2) (C := RX7) (T := TX7) (N := 2) hx hb hts in_wsX7_way_X7 hown hK hP q_1 hq_1 rfl 1 (by decide +kernel) (hts (.fieldLink RX7 15 "ShipOffice$Sea" "least" "[I") iw_X7_way_1) (fun _ h9 => h9) (o_rd hb_2) dX7_way_1 ?_
  have tb_2 : oty Z b_2 110 := oInv.rd gI to.2 hb_2 rfl rfl
  refine lv_ldc (v := 1000000) hx hb hown (hts (.constant RX7 18 (1000000)) (by decide +kernel)) dX7_way_4 ?_
  have hFc := o_free hD hS hA
  refine va_callv (va_runS (As := [.ref b_2, .int 1000000]) (rest := []) ⟨hx, hb, hml, hown, hts⟩ (c_J7_fill_53178_110 l dC dI s.heap.size cq Z gI b_2 tb_2 1000000) (va_cwS 2 hts gX7_way_J7_fill_53178 rfl rfl rfl (by decide +kernel) ⟨(Nat.le_of_ble_eq_true rfl), (Nat.le_of_ble_eq_true rfl)⟩) (pr_S hP hK hD) rfl rfl hl.1 rfl (lv_room (Nat.le_of_ble_eq_true rfl)) dX7_way_6 ⟨(Nat.le_of_ble_eq_true rfl), (Nat.le_of_ble_eq_true rfl)⟩) hS (fun q _ h => hFc q h) hFc (fun u t H locs ht hvm w_3 hB hz1 hk1 hS => ?_)
  obtain ⟨S_5, rfl⟩ : ∃ z, z = u := ⟨_, rfl⟩
  obtain ⟨hP1, hK1, hD1⟩ := hB
  rw [ht] at hP1
  have hP : va_P (dC, dI) vwCl (oW cq S_5) H := hP1
  have hD : va_D A (oW cq S_5) := hD1.weaken (fun _ _ _ h => hFc _ h)
  clear hP1 hK1 hD1 hk1 hz1 hvm ht hFc
  obtain ⟨hIS_5, XS_5⟩ := w_3
  have X_6 : oX [2110] Z S_5 := oX.st oX.rf XS_5 (by decide +kernel)
  refine lv_aload_n hx hb dX7_way_9 rfl (lv_at hl 0 rfl) ?_
  have t_7 : oty S_5 o 7 := (oX.ty XS_5 to)
  obtain ⟨q_8, hq_8⟩ := og (cq := cq) t_7.1 (oE_7 t_7.2)
  obtain ⟨b_9, hb_9⟩ := oInv.nn (i := 1) hIS_5 t_7 rfl
  refine va_get (D := (dC, dI)) (ci := 7) (v := .ref b_9) (C := RX7) (T := TX7) (N := 2) hx hb hts in_wsX7_way_X7 hown hK hP q_8 hq_8 rfl 1 (by decide +kernel) (hts (.fieldLink RX7 15 "ShipOffice$Sea" "least" "[I") iw_X7_way_1) (fun _ h9 => h9) (o_rd hb_9) dX7_way_10 ?_
  have tb_9 : oty S_5 b_9 110 := oInv.rd hIS_5 t_7.2 hb_9 rfl rfl
  refine lv_iload_n hx hb dX7_way_13 rfl (lv_at hl 1 rfl) ?_
  refine lv_iconst (v := 0) hx hb dX7_way_14 (by decide +kernel) ?_
  obtain ⟨q_10, hq_10⟩ := og (cq := cq) tb_9.1 (oE_a1 (n := 10) tb_9.2 (by decide +kernel))
  refine va_iast hx hb hK hP hD hS q_10 0 hq_10 rfl (vp_in_iff.mpr (by omega)) dX7_way_15 (fun H locs hP1 hD1 hS => ?_)
  obtain ⟨S_11, eS_11⟩ : ∃ zq, zq = setI S_5 b_9 (x1 : Int32).toNatClampNeg 0 := ⟨_, rfl⟩
  have hP : va_P (dC, dI) vwCl (oW cq S_11) H := by rw [eS_11]; exact cP (oset tb_9.1 hq_10 hD rfl (he_a1 (n := 10) tb_9.2 (by decide +kernel)) neI) hP1
  have hD : va_D A (oW cq S_11) := by rw [eS_11]; exact cD (oset tb_9.1 hq_10 hD rfl (he_a1 (n := 10) tb_9.2 (by decide +kernel)) neI) hD1
  clear hP1 hD1
  have hIS_11 : oInv S_11 := by rw [eS_11]; exact oInv.A (k := 110) hIS_5 tb_9.2 (by decide +kernel)
  have XS_11 : oX [2110] S_5 S_11 := by rw [eS_11]; exact oX.I (k := 110) (key := 2110) tb_9.2 rfl (List.mem_singleton.mpr rfl)
  have X_12 : oX [2110] Z S_11 := oX.st X_6 XS_11 (by decide +kernel)
  refine lv_iconst (v := 1) hx hb dX7_way_16 (by decide +kernel) ?_
  refine lv_istore_n (lv' := [(3, .int 1), (0, .ref o), (1, .int x1), (2, .int x2)]) hx hb dX7_way_17 rfl hl (by decide +kernel) rfl (fun ls hl => ?_)
  have cut_13 : ∀ (n : Nat) (y_14 : Int32) (S_15 : oS) (H : Heap) (locs : List Loc) (ls : Array Slot), 10 - y_14.toInt ≤ (n : Int) → (1 ≤ y_14.toInt ∧ y_14.toInt ≤ 10) → oInv S_15 → oX [2110] S_11 S_15 → va_P (dC, dI) vwCl (oW cq S_15) H → va_D A (oW cq S_15) → va_S A s.heap H locs → lv_has ls 4 [(3, .int y_14), (0, .ref o), (1, .int x1), (2, .int x2)] → W p l e (headSpec wsX7_way { frames := 1, cells := 0, slots := 0, locals := 23 }).room s m #[Value.ref o, Value.int x1, Value.int x2] below meth c H locs 0 0 (MQ below (va_Qi (fun (r : Int32) (u : oS) => oInv u ∧ oX [2110] Z u) (fun u t => va_P (dC, dI) vwCl (oW cq u) t.heap ∧ va_K (dC, dI) vwCl (oT cq) t ∧ va_D A (oW cq u)) A) #[Value.ref o, Value.int x1, Value.int x2] s 0 0 A) (F0 m 18 ls []) := by
    intro n
    induction n using Nat.strongRecOn with
    | ind n ih =>
      intro y_14 S_15 H locs ls hm hy_14 hIS_15 XS_15 hP hD hS hl
      have YS_15 : oX [2110] Z S_15 := oX.st X_12 XS_15 (fun _ q => q)
      refine lv_iload_n hx hb dX7_way_18 rfl (lv_at hl 0 rfl) ?_
      refine lv_bipush (v := 10) hx hb dX7_way_19 (by decide +kernel) ?_
      refine lv_icmp_ge (tgt := 34) hx hb dX7_way_21 (by decide +kernel) (fun c_16 => ?_) (fun c_16 => ?_)
      · have dc_16 := c_le (a := 10) (b := y_14.toInt) (by decide +kernel) rfl c_16
        refine lv_aload_n hx hb dX7_way_34 rfl (lv_at hl 1 rfl) ?_
        have t_17 : oty S_15 o 7 := (oX.ty XS_15 (oX.ty XS_11 t_7))
        obtain ⟨q_18, hq_18⟩ := og (cq := cq) t_17.1 (oE_7 t_17.2)
        obtain ⟨b_19, hb_19⟩ := oInv.nn (i := 1) hIS_15 t_17 rfl
        refine va_get (D := (dC, dI)) (ci := 7) (v := .ref b_19) (C := RX7) (T := TX7) (N := 2) hx hb hts in_wsX7_way_X7 hown hK hP q_18 hq_18 rfl 1 (by decide +kernel) (hts (.fieldLink RX7 15 "ShipOffice$Sea" "least" "[I") iw_X7_way_1) (fun _ h9 => h9) (o_rd hb_19) dX7_way_35 ?_
        have tb_19 : oty S_15 b_19 110 := oInv.rd hIS_15 t_17.2 hb_19 rfl rfl
        refine lv_iload_n hx hb dX7_way_38 rfl (lv_at hl 3 rfl) ?_
        obtain ⟨q_20, hq_20⟩ := og (cq := cq) tb_19.1 (oE_a1 (n := 10) tb_19.2 (by decide +kernel))
        refine va_iald hx hb hK hP q_20 0 hq_20 rfl (vp_in_iff.mpr (by omega)) dX7_way_39 ?_
        refine lv_topi (fun x_21 ex_21 => ?_)
        clear ex_21
        refine lv_ldc (v := 1000000) hx hb hown (hts (.constant RX7 18 (1000000)) (by decide +kernel)) dX7_way_40 ?_
        refine lv_icmp_ne (tgt := 50) hx hb dX7_way_42 (by decide +kernel) (fun c_22 => ?_) (fun c_22 => ?_)
        · have dc_22 := c_ne (a := x_21.toInt) (b := 1000000) rfl (by decide +kernel) c_22
          refine lv_aload_n hx hb dX7_way_50 rfl (lv_at hl 1 rfl) ?_
          refine va_get (D := (dC, dI)) (ci := 7) (v := .ref b_19) (C := RX7) (T := TX7) (N := 2) hx hb hts in_wsX7_way_X7 hown hK hP q_18 hq_18 rfl 1 (by decide +kernel) (hts (.fieldLink RX7 15 "ShipOffice$Sea" "least" "[I") iw_X7_way_1) (fun _ h9 => h9) (o_rd hb_19) dX7_way_51 ?_
          refine lv_iload_n hx hb dX7_way_54 rfl (lv_at hl 3 rfl) ?_
          refine va_iald hx hb hK hP q_20 0 hq_20 rfl (vp_in_iff.mpr (by omega)) dX7_way_55 ?_
          refine lv_topi (fun x_23 ex_23 => ?_)
          clear ex_23
          exact W.iret (v := x_23) hx hb hr (fun t ht hW => ⟨⟨x_23, S_15, rfl, ⟨hIS_15, YS_15⟩, ⟨by rw [ht]; exact hP, va_K.moved hW.alike hK, hD⟩⟩, hS.F ht⟩) hS.2.2 dX7_way_56
        · have dc_22 := c_eq (a := x_21.toInt) (b := 1000000) rfl (by decide +kernel) c_22
          refine lv_bipush (v := (-9)) hx hb dX7_way_45 (by decide +kernel) ?_
          refine lv_goto (tgt := 56) hx hb dX7_way_47 (by decide +kernel) ?_
          exact W.iret (v := (-9)) hx hb hr (fun t ht hW => ⟨⟨(-9), S_15, rfl, ⟨hIS_15, YS_15⟩, ⟨by rw [ht]; exact hP, va_K.moved hW.alike hK, hD⟩⟩, hS.F ht⟩) hS.2.2 dX7_way_56
      · have dc_16 := c_nle (a := 10) (b := y_14.toInt) (by decide +kernel) rfl c_16
        refine lv_aload_n hx hb dX7_way_24 rfl (lv_at hl 1 rfl) ?_
        have t_24 : oty S_15 o 7 := (oX.ty XS_15 (oX.ty XS_11 t_7))
        have hFc := o_free hD hS hA
        obtain ⟨q_25, hq_25⟩ := og (cq := cq) t_24.1 (oE_7 t_24.2)
        refine va_callv (va_runV (As := []) (rest := []) ⟨hx, hb, hml, hown, hts⟩ (c_X7_shorten l dC dI H.size cq S_15 hIS_15 o t_24) (cwV 0 hts gX7_way_X7_shorten rfl rfl rfl (by decide +kernel) ⟨(Nat.le_of_ble_eq_true rfl), (Nat.le_of_ble_eq_true rfl)⟩) (pr_V (r := (RX7, TX7, 2)) hP hK hD q_25 7 rfl hq_25) rfl rfl hl.1 rfl (lv_room (Nat.le_of_ble_eq_true rfl)) dX7_way_25 ⟨(Nat.le_of_ble_eq_true rfl), (Nat.le_of_ble_eq_true rfl)⟩) hS (fun q _ h => hFc q h) hFc (fun u t H locs ht hvm w_26 hB hz1 hk1 hS => ?_)
        obtain ⟨S_28, rfl⟩ : ∃ z, z = u := ⟨_, rfl⟩
        obtain ⟨hP1, hK1, hD1⟩ := hB
        rw [ht] at hP1
        have hP : va_P (dC, dI) vwCl (oW cq S_28) H := hP1
        have hD : va_D A (oW cq S_28) := hD1.weaken (fun _ _ _ h => hFc _ h)
        clear hP1 hK1 hD1 hk1 hz1 hvm ht hFc
        obtain ⟨hIS_28, XS_28⟩ := w_26
        have X_29 : oX [2110] Z S_28 := oX.st YS_15 XS_28 (by decide +kernel)
        obtain ⟨x_30, ex_30⟩ : ∃ zq : Int32, y_14 + 1 = zq := ⟨_, rfl⟩
        have hx_30 : x_30.toInt = y_14.toInt + 1 := (iv_to ex_30).symm.trans (ad_i rfl (by decide +kernel) (by omega) (by omega))
        refine lv_iinc (v := x_30) (lv' := [(3, .int x_30), (0, .ref o), (1, .int x1), (2, .int x2)]) hx hb dX7_way_28 hl (k := 0) rfl ex_30 (by decide +kernel) rfl (fun ls hl => ?_)
        clear ex_30
        refine lv_goto (tgt := 18) hx hb dX7_way_31 (by decide +kernel) ?_
        exact ih (n - 1) (by omega) x_30 S_28 _ _ ls (by omega) (by omega) hIS_28 (oX.st (oX.st oX.rf XS_15 (by decide +kernel)) XS_28 (by decide +kernel)) hP hD hS (lv_sub hl [0, 1, 2, 3] rfl)
  have kc_31 : (1 : Int32).toInt = 1 := by decide
  exact cut_13 11 1 S_11 _ _ ls (by omega) (by decide +kernel) hIS_11 oX.rf hP hD hS (lv_sub hl [0, 1, 2, 3] rfl)
