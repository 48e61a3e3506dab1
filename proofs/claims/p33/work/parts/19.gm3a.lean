abbrev cX11_bare : ByteArray := prog_13_method_38_code
def yX11_bare : MethodName := ⟨RX11, "bare", "()V"⟩
abbrev cX11_isAlike : ByteArray := prog_13_method_67_code
def yX11_isAlike : MethodName := ⟨RX11, "isAlike", "(II)Z"⟩
abbrev cX11_ask : ByteArray := prog_13_method_74_code
def yX11_ask : MethodName := ⟨RX11, "ask", "(III)I"⟩
theorem gw_X11_isMan : wsX11_isMan.all goodWord = true := by decide +kernel
def wsX11_bare : List Cond := .code yX11_bare cX11_bare 2 none :: ([.fieldLink RX11 128 "ShipOfficeModel" "letters" "[I"] ++ wsX110)
theorem il_X11_bare_1 : ∀ w ∈ ([.fieldLink RX11 128 "ShipOfficeModel" "letters" "[I"] : List Cond), w ∈ wsX11_bare := fun w h => (List.mem_cons_of_mem _ (List.mem_append_left _ h))
theorem iw_X11_bare_1 : Cond.fieldLink RX11 128 "ShipOfficeModel" "letters" "[I" ∈ wsX11_bare := (mmI il_X11_bare_1 0 rfl)
def wsX11_isAlike : List Cond := .code yX11_isAlike cX11_isAlike 7 (some .boolean) :: ([.fieldLink RX11 19 "ShipOfficeModel" "marks" "[I", .fieldLink RX11 16 "ShipOfficeModel" "name" "[I"] ++ wsX110)
theorem il_X11_isAlike_1 : ∀ w ∈ ([.fieldLink RX11 19 "ShipOfficeModel" "marks" "[I", .fieldLink RX11 16 "ShipOfficeModel" "name" "[I"] : List Cond), w ∈ wsX11_isAlike := fun w h => (List.mem_cons_of_mem _ (List.mem_append_left _ h))
theorem iw_X11_isAlike_1 : Cond.fieldLink RX11 19 "ShipOfficeModel" "marks" "[I" ∈ wsX11_isAlike := (mmI il_X11_isAlike_1 0 rfl)
theorem iw_X11_isAlike_2 : Cond.fieldLink RX11 16 "ShipOfficeModel" "name" "[I" ∈ wsX11_isAlike := (mmI il_X11_isAlike_1 1 rfl)
def wsX11_ask : List Cond := .code yX11_ask cX11_ask 5 (some .int) :: ([.fieldLink RX11 25 "ShipOfficeModel" "asks" "[I", .methodLink RX11 297 yX11_isMan, .instanceMethod yX11_isMan, .selects RX11 yX11_isMan yX11_isMan, .initialized RX11, .code yX11_isMan cX11_isMan 2 (some .boolean), .fieldLink RX11 157 "ShipOfficeModel" "men" "I", .methodLink RX11 161 yX11_isIn, .static yX11_isIn, .code yX11_isIn cX11_isIn 2 (some .boolean), .methodLink RX11 153 yX11_refuse, .instanceMethod yX11_refuse, .selects RX11 yX11_refuse yX11_refuse, .code yX11_refuse cX11_refuse 2 (some .int), .fieldLink RX11 7 "ShipOfficeModel" "refusals" "[I"] ++ wsX110)
theorem il_X11_ask_1 : ∀ w ∈ ([.fieldLink RX11 25 "ShipOfficeModel" "asks" "[I", .methodLink RX11 297 yX11_isMan, .instanceMethod yX11_isMan, .selects RX11 yX11_isMan yX11_isMan, .initialized RX11, .code yX11_isMan cX11_isMan 2 (some .boolean), .fieldLink RX11 157 "ShipOfficeModel" "men" "I", .methodLink RX11 161 yX11_isIn, .static yX11_isIn, .code yX11_isIn cX11_isIn 2 (some .boolean), .methodLink RX11 153 yX11_refuse, .instanceMethod yX11_refuse, .selects RX11 yX11_refuse yX11_refuse, .code yX11_refuse cX11_refuse 2 (some .int), .fieldLink RX11 7 "ShipOfficeModel" "refusals" "[I"] : List Cond), w ∈ wsX11_ask := fun w h => (List.mem_cons_of_mem _ (List.mem_append_left _ h))
theorem il_X11_ask_2 : ∀ w ∈ wsX110, w ∈ wsX11_ask := fun w h => (List.mem_cons_of_mem _ (List.mem_append_right _ h))
theorem iw_X11_ask_1 : Cond.fieldLink RX11 25 "ShipOfficeModel" "asks" "[I" ∈ wsX11_ask := (mmI il_X11_ask_1 0 rfl)
theorem dX11_bare_0 : decode cX11_bare 0 = .ok (.iconst 0, 1) := by decide +kernel
theorem dX11_bare_1 : decode cX11_bare 1 = .ok (.istore_n 1, 1) := by decide +kernel
theorem dX11_bare_2 : decode cX11_bare 2 = .ok (.iload_n 1, 1) := by decide +kernel
theorem dX11_bare_3 : decode cX11_bare 3 = .ok (.sipush 128, 3) := by decide +kernel
theorem dX11_bare_6 : decode cX11_bare 6 = .ok (.if_icmp .ge 16, 3) := by decide +kernel
theorem dX11_bare_9 : decode cX11_bare 9 = .ok (.aload_n 0, 1) := by decide +kernel
theorem dX11_bare_10 : decode cX11_bare 10 = .ok (.getfield 128, 3) := by decide +kernel
theorem dX11_bare_13 : decode cX11_bare 13 = .ok (.iload_n 1, 1) := by decide +kernel
theorem dX11_bare_14 : decode cX11_bare 14 = .ok (.iconst 0, 1) := by decide +kernel
theorem dX11_bare_15 : decode cX11_bare 15 = .ok (.iastore, 1) := by decide +kernel
theorem dX11_bare_16 : decode cX11_bare 16 = .ok (.iinc 1 1, 3) := by decide +kernel
theorem dX11_bare_19 : decode cX11_bare 19 = .ok (.goto (-17), 3) := by decide +kernel
theorem dX11_bare_22 : decode cX11_bare 22 = .ok (.return_, 1) := by decide +kernel
theorem dX11_isAlike_0 : decode cX11_isAlike 0 = .ok (.aload_n 0, 1) := by decide +kernel
theorem dX11_isAlike_1 : decode cX11_isAlike 1 = .ok (.getfield 19, 3) := by decide +kernel
theorem dX11_isAlike_4 : decode cX11_isAlike 4 = .ok (.iload_n 1, 1) := by decide +kernel
theorem dX11_isAlike_5 : decode cX11_isAlike 5 = .ok (.iaload, 1) := by decide +kernel
theorem dX11_isAlike_6 : decode cX11_isAlike 6 = .ok (.aload_n 0, 1) := by decide +kernel
theorem dX11_isAlike_7 : decode cX11_isAlike 7 = .ok (.getfield 19, 3) := by decide +kernel
theorem dX11_isAlike_10 : decode cX11_isAlike 10 = .ok (.iload_n 2, 1) := by decide +kernel
theorem dX11_isAlike_11 : decode cX11_isAlike 11 = .ok (.iaload, 1) := by decide +kernel
theorem dX11_isAlike_12 : decode cX11_isAlike 12 = .ok (.if_icmp .ne 5, 3) := by decide +kernel
theorem dX11_isAlike_15 : decode cX11_isAlike 15 = .ok (.iconst 1, 1) := by decide +kernel
theorem dX11_isAlike_16 : decode cX11_isAlike 16 = .ok (.ireturn, 1) := by decide +kernel
theorem dX11_isAlike_17 : decode cX11_isAlike 17 = .ok (.iconst 0, 1) := by decide +kernel
theorem dX11_isAlike_18 : decode cX11_isAlike 18 = .ok (.istore_n 3, 1) := by decide +kernel
theorem dX11_isAlike_19 : decode cX11_isAlike 19 = .ok (.aload_n 0, 1) := by decide +kernel
theorem dX11_isAlike_20 : decode cX11_isAlike 20 = .ok (.getfield 19, 3) := by decide +kernel
theorem dX11_isAlike_23 : decode cX11_isAlike 23 = .ok (.iload_n 1, 1) := by decide +kernel
theorem dX11_isAlike_24 : decode cX11_isAlike 24 = .ok (.iaload, 1) := by decide +kernel
theorem dX11_isAlike_25 : decode cX11_isAlike 25 = .ok (.istore 4, 2) := by decide +kernel
theorem dX11_isAlike_27 : decode cX11_isAlike 27 = .ok (.aload_n 0, 1) := by decide +kernel
theorem dX11_isAlike_28 : decode cX11_isAlike 28 = .ok (.getfield 19, 3) := by decide +kernel
theorem dX11_isAlike_31 : decode cX11_isAlike 31 = .ok (.iload_n 2, 1) := by decide +kernel
theorem dX11_isAlike_32 : decode cX11_isAlike 32 = .ok (.iaload, 1) := by decide +kernel
theorem dX11_isAlike_33 : decode cX11_isAlike 33 = .ok (.istore 5, 2) := by decide +kernel
theorem dX11_isAlike_35 : decode cX11_isAlike 35 = .ok (.iconst 0, 1) := by decide +kernel
theorem dX11_isAlike_36 : decode cX11_isAlike 36 = .ok (.istore 6, 2) := by decide +kernel
theorem dX11_isAlike_38 : decode cX11_isAlike 38 = .ok (.iload 6, 2) := by decide +kernel
theorem dX11_isAlike_40 : decode cX11_isAlike 40 = .ok (.iconst 5, 1) := by decide +kernel
theorem dX11_isAlike_41 : decode cX11_isAlike 41 = .ok (.if_icmp .ge 44, 3) := by decide +kernel
theorem dX11_isAlike_44 : decode cX11_isAlike 44 = .ok (.iload_n 3, 1) := by decide +kernel
theorem dX11_isAlike_45 : decode cX11_isAlike 45 = .ok (.iload 4, 2) := by decide +kernel
theorem dX11_isAlike_47 : decode cX11_isAlike 47 = .ok (.bipush 10, 2) := by decide +kernel
theorem dX11_isAlike_49 : decode cX11_isAlike 49 = .ok (.irem, 1) := by decide +kernel
theorem dX11_isAlike_50 : decode cX11_isAlike 50 = .ok (.iload 5, 2) := by decide +kernel
theorem dX11_isAlike_52 : decode cX11_isAlike 52 = .ok (.bipush 10, 2) := by decide +kernel
theorem dX11_isAlike_54 : decode cX11_isAlike 54 = .ok (.irem, 1) := by decide +kernel
theorem dX11_isAlike_55 : decode cX11_isAlike 55 = .ok (.if_icmp .ne 7, 3) := by decide +kernel
theorem dX11_isAlike_58 : decode cX11_isAlike 58 = .ok (.iconst 0, 1) := by decide +kernel
theorem dX11_isAlike_59 : decode cX11_isAlike 59 = .ok (.goto 4, 3) := by decide +kernel
theorem dX11_isAlike_62 : decode cX11_isAlike 62 = .ok (.iconst 1, 1) := by decide +kernel
theorem dX11_isAlike_63 : decode cX11_isAlike 63 = .ok (.iadd, 1) := by decide +kernel
theorem dX11_isAlike_64 : decode cX11_isAlike 64 = .ok (.istore_n 3, 1) := by decide +kernel
theorem dX11_isAlike_65 : decode cX11_isAlike 65 = .ok (.iload 4, 2) := by decide +kernel
theorem dX11_isAlike_67 : decode cX11_isAlike 67 = .ok (.bipush 10, 2) := by decide +kernel
theorem dX11_isAlike_69 : decode cX11_isAlike 69 = .ok (.idiv, 1) := by decide +kernel
theorem dX11_isAlike_70 : decode cX11_isAlike 70 = .ok (.istore 4, 2) := by decide +kernel
theorem dX11_isAlike_72 : decode cX11_isAlike 72 = .ok (.iload 5, 2) := by decide +kernel
theorem dX11_isAlike_74 : decode cX11_isAlike 74 = .ok (.bipush 10, 2) := by decide +kernel
theorem dX11_isAlike_76 : decode cX11_isAlike 76 = .ok (.idiv, 1) := by decide +kernel
theorem dX11_isAlike_77 : decode cX11_isAlike 77 = .ok (.istore 5, 2) := by decide +kernel
theorem dX11_isAlike_79 : decode cX11_isAlike 79 = .ok (.iinc 6 1, 3) := by decide +kernel
theorem dX11_isAlike_82 : decode cX11_isAlike 82 = .ok (.goto (-44), 3) := by decide +kernel
theorem dX11_isAlike_85 : decode cX11_isAlike 85 = .ok (.aload_n 0, 1) := by decide +kernel
theorem dX11_isAlike_86 : decode cX11_isAlike 86 = .ok (.getfield 16, 3) := by decide +kernel
theorem dX11_isAlike_89 : decode cX11_isAlike 89 = .ok (.iload_n 1, 1) := by decide +kernel
theorem dX11_isAlike_90 : decode cX11_isAlike 90 = .ok (.iaload, 1) := by decide +kernel
theorem dX11_isAlike_91 : decode cX11_isAlike 91 = .ok (.aload_n 0, 1) := by decide +kernel
theorem dX11_isAlike_92 : decode cX11_isAlike 92 = .ok (.getfield 16, 3) := by decide +kernel
theorem dX11_isAlike_95 : decode cX11_isAlike 95 = .ok (.iload_n 2, 1) := by decide +kernel
theorem dX11_isAlike_96 : decode cX11_isAlike 96 = .ok (.iaload, 1) := by decide +kernel
theorem dX11_isAlike_97 : decode cX11_isAlike 97 = .ok (.if_icmp .ne 12, 3) := by decide +kernel
theorem dX11_isAlike_100 : decode cX11_isAlike 100 = .ok (.iload_n 3, 1) := by decide +kernel
theorem dX11_isAlike_101 : decode cX11_isAlike 101 = .ok (.iconst 2, 1) := by decide +kernel
theorem dX11_isAlike_102 : decode cX11_isAlike 102 = .ok (.if_icmp .ge 7, 3) := by decide +kernel
theorem dX11_isAlike_105 : decode cX11_isAlike 105 = .ok (.iconst 1, 1) := by decide +kernel
theorem dX11_isAlike_106 : decode cX11_isAlike 106 = .ok (.goto 4, 3) := by decide +kernel
theorem dX11_isAlike_109 : decode cX11_isAlike 109 = .ok (.iconst 0, 1) := by decide +kernel
theorem dX11_isAlike_110 : decode cX11_isAlike 110 = .ok (.ireturn, 1) := by decide +kernel
set_option maxRecDepth 100000 in
theorem ggX11_ask_X11_isMan : GoodIn wsX11_ask wsX11_isMan := goodIn_sub (mmC (mmI il_X11_ask_1 5 rfl) (mmA (mmC (mmI il_X11_ask_1 6 rfl) (mmC (mmI il_X11_ask_1 7 rfl) (mmC (mmI il_X11_ask_1 8 rfl) (mmC (mmI il_X11_ask_1 4 rfl) (mmC (mmI il_X11_ask_1 9 rfl) mmN))))) il_X11_ask_2)) gw_X11_isMan
theorem gX11_ask_X11_isMan : GoodIn wsX11_ask (wsV RX11 297 RX11 yX11_isMan wsX11_isMan) := goodIn_app (goodIn_sub (mmC (mmI il_X11_ask_1 1 rfl) (mmC (mmI il_X11_ask_1 2 rfl) (mmC (mmI il_X11_ask_1 3 rfl) (mmC (mmI il_X11_ask_1 4 rfl) mmN)))) (by decide +kernel)) ggX11_ask_X11_isMan
set_option maxRecDepth 100000 in
theorem ggX11_ask_X11_refuse : GoodIn wsX11_ask wsX11_refuse := goodIn_sub (mmC (mmI il_X11_ask_1 13 rfl) (mmA (mmC (mmI il_X11_ask_1 14 rfl) mmN) il_X11_ask_2)) gw_X11_refuse
theorem gX11_ask_X11_refuse : GoodIn wsX11_ask (wsV RX11 153 RX11 yX11_refuse wsX11_refuse) := goodIn_app (goodIn_sub (mmC (mmI il_X11_ask_1 10 rfl) (mmC (mmI il_X11_ask_1 11 rfl) (mmC (mmI il_X11_ask_1 12 rfl) (mmC (mmI il_X11_ask_1 4 rfl) mmN)))) (by decide +kernel)) ggX11_ask_X11_refuse
theorem dX11_ask_0 : decode cX11_ask 0 = .ok (.aload_n 0, 1) := by decide +kernel
theorem dX11_ask_1 : decode cX11_ask 1 = .ok (.iload_n 1, 1) := by decide +kernel
theorem dX11_ask_2 : decode cX11_ask 2 = .ok (.invokevirtual 297, 3) := by decide +kernel
theorem dX11_ask_5 : decode cX11_ask 5 = .ok (.ifCond .ne 9, 3) := by decide +kernel
theorem dX11_ask_8 : decode cX11_ask 8 = .ok (.aload_n 0, 1) := by decide +kernel
theorem dX11_ask_9 : decode cX11_ask 9 = .ok (.iconst (-1), 1) := by decide +kernel
theorem dX11_ask_10 : decode cX11_ask 10 = .ok (.invokevirtual 153, 3) := by decide +kernel
theorem dX11_ask_13 : decode cX11_ask 13 = .ok (.ireturn, 1) := by decide +kernel
theorem dX11_ask_14 : decode cX11_ask 14 = .ok (.iload_n 2, 1) := by decide +kernel
theorem dX11_ask_15 : decode cX11_ask 15 = .ok (.ifCond .lt 7, 3) := by decide +kernel
theorem dX11_ask_18 : decode cX11_ask 18 = .ok (.iload_n 3, 1) := by decide +kernel
theorem dX11_ask_19 : decode cX11_ask 19 = .ok (.ifCond .ge 10, 3) := by decide +kernel
theorem dX11_ask_22 : decode cX11_ask 22 = .ok (.aload_n 0, 1) := by decide +kernel
theorem dX11_ask_23 : decode cX11_ask 23 = .ok (.bipush (-4), 2) := by decide +kernel
theorem dX11_ask_25 : decode cX11_ask 25 = .ok (.invokevirtual 153, 3) := by decide +kernel
theorem dX11_ask_28 : decode cX11_ask 28 = .ok (.ireturn, 1) := by decide +kernel
theorem dX11_ask_29 : decode cX11_ask 29 = .ok (.iload_n 2, 1) := by decide +kernel
theorem dX11_ask_30 : decode cX11_ask 30 = .ok (.iconst 3, 1) := by decide +kernel
theorem dX11_ask_31 : decode cX11_ask 31 = .ok (.if_icmp .gt 10, 3) := by decide +kernel
theorem dX11_ask_34 : decode cX11_ask 34 = .ok (.iload_n 3, 1) := by decide +kernel
theorem dX11_ask_35 : decode cX11_ask 35 = .ok (.sipush 9999, 3) := by decide +kernel
theorem dX11_ask_38 : decode cX11_ask 38 = .ok (.if_icmp .le 10, 3) := by decide +kernel
theorem dX11_ask_41 : decode cX11_ask 41 = .ok (.aload_n 0, 1) := by decide +kernel
theorem dX11_ask_42 : decode cX11_ask 42 = .ok (.bipush (-6), 2) := by decide +kernel
theorem dX11_ask_44 : decode cX11_ask 44 = .ok (.invokevirtual 153, 3) := by decide +kernel
theorem dX11_ask_47 : decode cX11_ask 47 = .ok (.ireturn, 1) := by decide +kernel
theorem dX11_ask_48 : decode cX11_ask 48 = .ok (.aload_n 0, 1) := by decide +kernel
theorem dX11_ask_49 : decode cX11_ask 49 = .ok (.getfield 25, 3) := by decide +kernel
theorem dX11_ask_52 : decode cX11_ask 52 = .ok (.iconst 4, 1) := by decide +kernel
theorem dX11_ask_53 : decode cX11_ask 53 = .ok (.iload_n 1, 1) := by decide +kernel
theorem dX11_ask_54 : decode cX11_ask 54 = .ok (.imul, 1) := by decide +kernel
theorem dX11_ask_55 : decode cX11_ask 55 = .ok (.iload_n 2, 1) := by decide +kernel
theorem dX11_ask_56 : decode cX11_ask 56 = .ok (.iadd, 1) := by decide +kernel
theorem dX11_ask_57 : decode cX11_ask 57 = .ok (.iaload, 1) := by decide +kernel
theorem dX11_ask_58 : decode cX11_ask 58 = .ok (.istore 4, 2) := by decide +kernel
theorem dX11_ask_60 : decode cX11_ask 60 = .ok (.aload_n 0, 1) := by decide +kernel
theorem dX11_ask_61 : decode cX11_ask 61 = .ok (.getfield 25, 3) := by decide +kernel
theorem dX11_ask_64 : decode cX11_ask 64 = .ok (.iconst 4, 1) := by decide +kernel
theorem dX11_ask_65 : decode cX11_ask 65 = .ok (.iload_n 1, 1) := by decide +kernel
theorem dX11_ask_66 : decode cX11_ask 66 = .ok (.imul, 1) := by decide +kernel
theorem dX11_ask_67 : decode cX11_ask 67 = .ok (.iload_n 2, 1) := by decide +kernel
theorem dX11_ask_68 : decode cX11_ask 68 = .ok (.iadd, 1) := by decide +kernel
theorem dX11_ask_69 : decode cX11_ask 69 = .ok (.iload_n 3, 1) := by decide +kernel
theorem dX11_ask_70 : decode cX11_ask 70 = .ok (.iastore, 1) := by decide +kernel
theorem dX11_ask_71 : decode cX11_ask 71 = .ok (.iload 4, 2) := by decide +kernel
theorem dX11_ask_73 : decode cX11_ask 73 = .ok (.ireturn, 1) := by decide +kernel
theorem in_wsX11_bare_X11 : ∀ w ∈ wsX110, w ∈ wsX11_bare := fun w h => List.mem_cons_of_mem _ (List.mem_append_right _ h)
theorem in_wsX11_isAlike_X11 : ∀ w ∈ wsX110, w ∈ wsX11_isAlike := fun w h => List.mem_cons_of_mem _ (List.mem_append_right _ h)
theorem in_wsX11_ask_X11 : ∀ w ∈ wsX110, w ∈ wsX11_ask := fun w h => List.mem_cons_of_mem _ (List.mem_append_right _ h)
/-- sums and differences that stay in an int -/
theorem ad_i {x y : Int32} {a b : Int} (hx : x.toInt = a) (hy : y.toInt = b) (h1 : -2147483648 ≤ a + b) (h2 : a + b ≤ 2147483647) : (x + y).toInt = a + b := by
  rw [Int32.toInt_add, hx, hy]
  exact Int.bmod_eq_of_le (by omega) (by omega)
theorem sb_i {x y : Int32} {a b : Int} (hx : x.toInt = a) (hy : y.toInt = b) (h1 : -2147483648 ≤ a - b) (h2 : a - b ≤ 2147483647) : (x - y).toInt = a - b := by
  rw [Int32.toInt_sub, hx, hy]
  exact Int.bmod_eq_of_le (by omega) (by omega)
theorem mu_i {x y : Int32} {a b : Int} (hx : x.toInt = a) (hy : y.toInt = b) (h1 : -2147483648 ≤ a * b) (h2 : a * b ≤ 2147483647) : (x * y).toInt = a * b := by
  rw [Int32.toInt_mul, hx, hy]
  exact Int.bmod_eq_of_le (by omega) (by omega)
theorem ng_i {x : Int32} {a : Int} (hx : x.toInt = a) (h1 : -2147483648 < a) (h2 : a ≤ 2147483647) : (-x).toInt = -a := by
  rw [Int32.toInt_neg, hx]
  exact Int.bmod_eq_of_le (by omega) (by omega)
theorem dv_i {x y : Int32} {a k : Int} (hx : x.toInt = a) (hy : y.toInt = k) (h0 : 0 ≤ a) (hk : 0 < k) : (x / y).toInt = a / k := by
  have hb := Int32.toInt_lt x
  have hq : a / k ≤ a := Int.ediv_le_self k h0
  have hn : 0 ≤ a / k := Int.ediv_nonneg h0 (Int.le_of_lt hk)
  rw [Int32.toInt_div, hx, hy, Int.tdiv_eq_ediv_of_nonneg h0]
  exact Int.bmod_eq_of_le (by omega) (by omega)
theorem rm_i {x y : Int32} {a k : Int} (hx : x.toInt = a) (hy : y.toInt = k) (h0 : 0 ≤ a) (hk : 0 < k) : (x - x / y * y).toInt = a % k := by
  have hb := Int32.toInt_lt x
  have hd := dv_i hx hy h0 hk
  have hn : 0 ≤ a / k := Int.ediv_nonneg h0 (Int.le_of_lt hk)
  have e := Int.emod_add_mul_ediv a k
  have e2 : a / k * k = k * (a / k) := Int.mul_comm _ _
  have h1 := Int.emod_nonneg a (Int.ne_of_gt hk)
  have hp : 0 ≤ k * (a / k) := Int.mul_nonneg (Int.le_of_lt hk) hn
  have hm : (x / y * y).toInt = a / k * k := mu_i hd hy (by omega) (by omega)
  rw [sb_i hx hm (by omega) (by omega)]
  omega
theorem iv_to {x y : Int32} (e : x = y) : x.toInt = y.toInt := congrArg Int32.toInt e
theorem iv_of {x y : Int32} {lo hi : Int} (e : x = y) (h : lo ≤ y.toInt ∧ y.toInt ≤ hi) : lo ≤ x.toInt ∧ x.toInt ≤ hi := by subst e; exact h
theorem c_lt {x y : Int32} {a b : Int} (hx : x.toInt = a) (hy : y.toInt = b) (h : x < y) : a < b := by
  subst hx hy; exact Int32.lt_iff_toInt_lt.mp h
theorem c_nlt {x y : Int32} {a b : Int} (hx : x.toInt = a) (hy : y.toInt = b) (h : ¬ x < y) : b ≤ a := by
  subst hx hy; exact Int.not_lt.mp (fun q => h (Int32.lt_iff_toInt_lt.mpr q))
theorem c_le {x y : Int32} {a b : Int} (hx : x.toInt = a) (hy : y.toInt = b) (h : x ≤ y) : a ≤ b := by
  subst hx hy; exact Int32.le_iff_toInt_le.mp h
theorem c_nle {x y : Int32} {a b : Int} (hx : x.toInt = a) (hy : y.toInt = b) (h : ¬ x ≤ y) : b < a := by
  subst hx hy; exact Int.not_le.mp (fun q => h (Int32.le_iff_toInt_le.mpr q))
theorem c_eq {x y : Int32} {a b : Int} (hx : x.toInt = a) (hy : y.toInt = b) (h : x = y) : a = b := by
  subst hx hy; rw [h]
theorem c_ne {x y : Int32} {a b : Int} (hx : x.toInt = a) (hy : y.toInt = b) (h : ¬ x = y) : ¬ a = b := by
  subst hx hy; exact fun q => h (Int32.toInt_inj.mp q)
theorem iv_all (x : Int32) : -2147483648 ≤ x.toInt ∧ x.toInt ≤ 2147483647 := ⟨Int32.le_toInt x, Int.le_of_lt_add_one (Int32.toInt_lt x)⟩
theorem cn_le {x : Int32} {n : Nat} (h : 0 ≤ x.toInt ∧ x.toInt ≤ (n : Int)) : x.toNatClampNeg ≤ n := by
  have e : x.toNatClampNeg = x.toInt.toNat := rfl
  omega
theorem cn_eq {x : Int32} {n : Int} (h : 0 ≤ x.toInt ∧ x.toInt ≤ n) : x = nI x.toNatClampNeg := by
  have e : x.toNatClampNeg = x.toInt.toNat := rfl
  have h2 := (iv_all x).2
  apply Int32.toInt_inj.mp
  rw [nI_toInt (by omega), e]
  omega
def vLo : Nat → Int := fun i => match i with
  | 38 => 0
  | 39 => 0
  | 40 => 0
  | 41 => 0
  | 42 => 0
  | 43 => 0
  | 46 => 0
  | 58 => 0
  | 59 => 0
  | 62 => 0
  | _ => -2147483648
def vHi : Nat → Int := fun i => match i with
  | 38 => 3000
  | 39 => 40
  | 40 => 20
  | 41 => 200
  | 42 => 30
  | 43 => 60
  | 46 => 60
  | 58 => 12
  | 59 => 8
  | 62 => 12
  | _ => 2147483647
def aLo : Nat → Int := fun i => match i with
  | 7 => 0
  | 8 => 0
  | 12 => 0
  | 15 => 0
  | 16 => 0
  | 20 => 0
  | 21 => 0
  | 24 => -1
  | 25 => 0
  | 30 => 0
  | 31 => 0
  | 33 => 0
  | 52 => 0
  | 54 => 0
  | 55 => 0
  | 56 => 0
  | 57 => 0
  | _ => -2147483648
def aHi : Nat → Int := fun i => match i with
  | 7 => 3000
  | 8 => 9
  | 12 => 3000
  | 15 => 9
  | 16 => 60
  | 20 => 39
  | 21 => 19
  | 24 => 59
  | 25 => 3000
  | 30 => 6
  | 31 => 20
  | 33 => 3000
  | 52 => 39
  | 54 => 39
  | 55 => 3
  | 56 => 11
  | 57 => 11
  | _ => 2147483647
/-- every int field of the reference, every element of its arrays lies in its bounds -/
def mV (v : Nat → Int32) : Prop := ∀ i, vLo i ≤ (v i).toInt ∧ (v i).toInt ≤ vHi i
def mA (fa : Nat → Nat → Int32) : Prop := ∀ k j, aLo k ≤ (fa k j).toInt ∧ (fa k j).toInt ≤ aHi k
def scI (i : Nat) : Bool := match i with
  | 47 => true
  | 48 => true
  | 49 => true
  | 50 => true
  | 51 => true
  | 58 => true
  | 59 => true
  | 60 => true
  | _ => false
def scA (i : Nat) : Bool := match i with
  | 45 => true
  | 52 => true
  | 53 => true
  | 54 => true
  | 55 => true
  | 56 => true
  | 57 => true
  | _ => false
/-- only what readers use for themselves has changed -/
def scr (v : Nat → Int32) (fa : Nat → Nat → Int32) (z : Nat → Int32) (fz : Nat → Nat → Int32) : Prop := (∀ i, scI i = false → z i = v i) ∧ ∀ k, scA k = false → fz k = fa k
theorem scr.rf {v : Nat → Int32} {fa : Nat → Nat → Int32} : scr v fa v fa := ⟨fun _ _ => rfl, fun _ _ => rfl⟩
theorem scr.tr {v z y : Nat → Int32} {fa fz fy : Nat → Nat → Int32} (h : scr v fa z fz) (g : scr z fz y fy) : scr v fa y fy := ⟨fun i q => (g.1 i q).trans (h.1 i q), fun k q => (g.2 k q).trans (h.2 k q)⟩
theorem scr.up {v z : Nat → Int32} {fa fz : Nat → Nat → Int32} {i : Nat} {x : Int32} (h : scr v fa z fz) (hi : scI i = true) : scr v fa (upd z i x) fz := ⟨fun j q => by
  have hn : j ≠ i := fun e => by rw [e, hi] at q; cases q
  exact (if_neg hn).trans (h.1 j q), h.2⟩
theorem scr.uF {v z : Nat → Int32} {fa fz : Nat → Nat → Int32} {k j : Nat} {x : Int32} (h : scr v fa z fz) (hi : scA k = true) : scr v fa z (upF fz k j x) := ⟨h.1, fun i q => by
  have hn : i ≠ k := fun e => by rw [e, hi] at q; cases q
  exact (if_neg hn).trans (h.2 i q)⟩
theorem mV_upd {z : Nat → Int32} {i : Nat} {x : Int32} {lo hi : Int} (h : mV z) (e1 : vLo i = lo) (e2 : vHi i = hi) (hx : lo ≤ x.toInt ∧ x.toInt ≤ hi) : mV (upd z i x) := by
  intro j
  by_cases q : j = i
  · subst q
    rw [e1, e2, show upd z j x j = x from if_pos rfl]
    exact hx
  · rw [show upd z i x j = z j from if_neg q]
    exact h j
theorem mA_upF {fz : Nat → Nat → Int32} {k n : Nat} {x : Int32} {lo hi : Int} (h : mA fz) (e1 : aLo k = lo) (e2 : aHi k = hi) (hx : lo ≤ x.toInt ∧ x.toInt ≤ hi) : mA (upF fz k n x) := by
  intro i j
  by_cases q : i = k
  · subst q
    rw [e1, e2, show upF fz i n x i = upd (fz i) n x from if_pos rfl]
    by_cases q2 : j = n
    · subst q2
      rw [show upd (fz i) j x j = x from if_pos rfl]
      exact hx
    · rw [show upd (fz i) n x j = fz i j from if_neg q2]
      have := h i j
      rw [e1, e2] at this
      exact this
  · rw [show upF fz k n x i = fz i from if_neg q]
    exact h i j
theorem uF_ne {fz : Nat → Nat → Int32} {k n j i : Nat} {x : Int32} (h : j ≠ k) : (upF fz k n x j i).toInt = (fz j i).toInt := by rw [show upF fz k n x j = fz j from if_neg h]
theorem scr.now {v z : Nat → Int32} {fa fz : Nat → Nat → Int32} (h : scr v fa z fz) : z 38 = v 38 := h.1 38 rfl
/-- only the fields that W names have changed, or the rows behind them -/
def mX (W : List Nat) (v : Nat → Int32) (fa : Nat → Nat → Int32) (z : Nat → Int32) (fz : Nat → Nat → Int32) : Prop := (∀ i, i ∉ W → z i = v i) ∧ ∀ k, k ∉ W → fz k = fa k
theorem mX.rf {W : List Nat} {v : Nat → Int32} {fa : Nat → Nat → Int32} : mX W v fa v fa := ⟨fun _ _ => rfl, fun _ _ => rfl⟩
theorem mX.st {W W1 : List Nat} {v z y : Nat → Int32} {fa fz fy : Nat → Nat → Int32} (h : mX W v fa z fz) (g : mX W1 z fz y fy) (hs : ∀ x ∈ W1, x ∈ W) : mX W v fa y fy := ⟨fun i q => (g.1 i (fun m => q (hs i m))).trans (h.1 i q), fun k q => (g.2 k (fun m => q (hs k m))).trans (h.2 k q)⟩
theorem mX.up {W : List Nat} {v z : Nat → Int32} {fa fz : Nat → Nat → Int32} {i : Nat} {x : Int32} (h : mX W v fa z fz) (hi : i ∈ W) : mX W v fa (upd z i x) fz := ⟨fun j q => (if_neg (fun e => q (by rw [e]; exact hi))).trans (h.1 j q), h.2⟩
theorem mX.uF {W : List Nat} {v z : Nat → Int32} {fa fz : Nat → Nat → Int32} {k j : Nat} {x : Int32} (h : mX W v fa z fz) (hi : k ∈ W) : mX W v fa z (upF fz k j x) := ⟨h.1, fun i q => (if_neg (fun e => q (by rw [e]; exact hi))).trans (h.2 i q)⟩
theorem mX.scr {v z : Nat → Int32} {fa fz : Nat → Nat → Int32} (h : scr v fa z fz) : mX [45, 47, 48, 49, 50, 51, 52, 53, 54, 55, 56, 57, 58, 59, 60] v fa z fz := by
  refine ⟨fun i q => h.1 i ?_, fun k q => h.2 k ?_⟩
  · unfold scI
    split
    all_goals first | rfl | exact absurd (by decide) q
  · unfold scA
    split
    all_goals first | rfl | exact absurd (by decide) q
theorem mX.s0 {v : Nat → Int32} {fa : Nat → Nat → Int32} {u : (Nat → Int32) × (Nat → Nat → Int32)} (h : sm0 v fa u) : mX [0] v fa u.1 u.2 := ⟨fun i _ => by rw [h.1], fun k q => h.2 k (fun e => q (by rw [e]; exact List.mem_singleton.mpr rfl))⟩
theorem sm0_V {v : Nat → Int32} {fa : Nat → Nat → Int32} {u : (Nat → Int32) × (Nat → Nat → Int32)} (h : sm0 v fa u) (hV : mV v) : mV u.1 := by rw [h.1]; exact hV
theorem sm0_A {v : Nat → Int32} {fa : Nat → Nat → Int32} {u : (Nat → Int32) × (Nat → Nat → Int32)} (h : sm0 v fa u) (hA : mA fa) : mA u.2 := by
  intro k j
  by_cases q : k = 0
  · subst q
    exact iv_all _
  · rw [h.2 k q]
    exact hA k j
theorem isI_0 {x n : Int32} (h : isI x n = 0) : x.toInt < 0 ∨ n.toInt ≤ x.toInt := by
  unfold isI at h
  split at h
  · rename_i h1; exact Or.inl (Int32.lt_iff_toInt_lt.mp h1)
  · split at h
    · rename_i h2; exact Or.inr (Int32.le_iff_toInt_le.mp h2)
    · exact absurd h (by decide)
theorem z1_i {r : Int32} (h : r = 0 ∨ r = 1) : 0 ≤ r.toInt ∧ r.toInt ≤ 1 := by
  rcases h with rfl | rfl <;> decide
theorem isI_i (x n : Int32) : 0 ≤ (isI x n).toInt ∧ (isI x n).toInt ≤ 1 := z1_i (isI_01 x n)
theorem isI_t {x n r : Int32} (e : r = isI x n) (h : ¬ r.toInt = 0) : 0 ≤ x.toInt ∧ x.toInt < n.toInt := by
  refine isI_nz (fun q => h ?_)
  rw [e, q]
  decide
theorem ni_lt {i : Int32} {x : Int32} (h0 : 0 ≤ i.toInt) (h : i.toInt < x.toInt) : i.toNatClampNeg < x.toNatClampNeg := by
  show i.toInt.toNat < x.toInt.toNat
  omega
theorem rd_V {v z : Nat → Int32} {n : Nat} (hV : mV v) (h : rdR v n z) : mV z := by
  obtain ⟨k', -, -, -, hs⟩ := h
  intro i
  by_cases q1 : i = 47
  · subst q1; exact iv_all _
  by_cases q2 : i = 48
  · subst q2; exact iv_all _
  by_cases q3 : i = 51
  · subst q3; exact iv_all _
  by_cases q4 : i = 49
  · subst q4; exact iv_all _
  by_cases q5 : i = 50
  · subst q5; exact iv_all _
  rw [hs i q1 q2 q3 q4 q5]
  exact hV i
theorem rd_R {v z : Nat → Int32} {fa fz : Nat → Nat → Int32} {n : Nat} (h : rdR v n z) (e : fz = fa) : scr v fa z fz := by
  obtain ⟨k', -, -, -, hs⟩ := h
  refine ⟨fun i q => hs i ?_ ?_ ?_ ?_ ?_, fun k _ => by rw [e]⟩ <;> (intro e2; subst e2; exact absurd q (by decide))
