abbrev cX11_miles : ByteArray := prog_13_method_10_code
def yX11_miles : MethodName := ⟨RX11, "miles", "(III)I"⟩
abbrev cX11_put : ByteArray := prog_13_method_79_code
def yX11_put : MethodName := ⟨RX11, "put", "(I)I"⟩
theorem gw_X11_isPort : wsX11_isPort.all goodWord = true := by decide +kernel
def wsX11_miles : List Cond := .code yX11_miles cX11_miles 5 (some .int) :: ([.fieldLink RX11 13 "ShipOfficeModel" "mile" "[I", .methodLink RX11 174 yX11_isPort, .static yX11_isPort, .initialized RX11, .code yX11_isPort cX11_isPort 1 (some .boolean), .methodLink RX11 161 yX11_isIn, .static yX11_isIn, .code yX11_isIn cX11_isIn 2 (some .boolean), .methodLink RX11 153 yX11_refuse, .instanceMethod yX11_refuse, .selects RX11 yX11_refuse yX11_refuse, .code yX11_refuse cX11_refuse 2 (some .int), .fieldLink RX11 7 "ShipOfficeModel" "refusals" "[I"] ++ wsX110)
theorem il_X11_miles_1 : ∀ w ∈ ([.fieldLink RX11 13 "ShipOfficeModel" "mile" "[I", .methodLink RX11 174 yX11_isPort, .static yX11_isPort, .initialized RX11, .code yX11_isPort cX11_isPort 1 (some .boolean), .methodLink RX11 161 yX11_isIn, .static yX11_isIn, .code yX11_isIn cX11_isIn 2 (some .boolean), .methodLink RX11 153 yX11_refuse, .instanceMethod yX11_refuse, .selects RX11 yX11_refuse yX11_refuse, .code yX11_refuse cX11_refuse 2 (some .int), .fieldLink RX11 7 "ShipOfficeModel" "refusals" "[I"] : List Cond), w ∈ wsX11_miles := fun w h => (List.mem_cons_of_mem _ (List.mem_append_left _ h))
theorem il_X11_miles_2 : ∀ w ∈ wsX110, w ∈ wsX11_miles := fun w h => (List.mem_cons_of_mem _ (List.mem_append_right _ h))
theorem iw_X11_miles_1 : Cond.fieldLink RX11 13 "ShipOfficeModel" "mile" "[I" ∈ wsX11_miles := (mmI il_X11_miles_1 0 rfl)
def wsX11_put : List Cond := .code yX11_put cX11_put 2 (some .int) :: ([.fieldLink RX11 357 "ShipOfficeModel" "rowed" "I", .fieldLink RX11 149 "ShipOfficeModel" "row" "[I", .methodLink RX11 153 yX11_refuse, .instanceMethod yX11_refuse, .selects RX11 yX11_refuse yX11_refuse, .initialized RX11, .code yX11_refuse cX11_refuse 2 (some .int), .fieldLink RX11 7 "ShipOfficeModel" "refusals" "[I"] ++ wsX110)
theorem il_X11_put_1 : ∀ w ∈ ([.fieldLink RX11 357 "ShipOfficeModel" "rowed" "I", .fieldLink RX11 149 "ShipOfficeModel" "row" "[I", .methodLink RX11 153 yX11_refuse, .instanceMethod yX11_refuse, .selects RX11 yX11_refuse yX11_refuse, .initialized RX11, .code yX11_refuse cX11_refuse 2 (some .int), .fieldLink RX11 7 "ShipOfficeModel" "refusals" "[I"] : List Cond), w ∈ wsX11_put := fun w h => (List.mem_cons_of_mem _ (List.mem_append_left _ h))
theorem il_X11_put_2 : ∀ w ∈ wsX110, w ∈ wsX11_put := fun w h => (List.mem_cons_of_mem _ (List.mem_append_right _ h))
theorem iw_X11_put_1 : Cond.fieldLink RX11 357 "ShipOfficeModel" "rowed" "I" ∈ wsX11_put := (mmI il_X11_put_1 0 rfl)
theorem iw_X11_put_2 : Cond.fieldLink RX11 149 "ShipOfficeModel" "row" "[I" ∈ wsX11_put := (mmI il_X11_put_1 1 rfl)
set_option maxRecDepth 100000 in
theorem ggX11_miles_X11_isPort : GoodIn wsX11_miles wsX11_isPort := goodIn_sub (mmC (mmI il_X11_miles_1 4 rfl) (mmC (mmI il_X11_miles_1 5 rfl) (mmC (mmI il_X11_miles_1 6 rfl) (mmC (mmI il_X11_miles_1 3 rfl) (mmC (mmI il_X11_miles_1 7 rfl) mmN))))) gw_X11_isPort
set_option maxRecDepth 20000 in
theorem gX11_miles_X11_isPort : GoodIn wsX11_miles (va_wsS RX11 174 yX11_isPort wsX11_isPort) := goodIn_app (goodIn_of _ (by decide +kernel)) ggX11_miles_X11_isPort
set_option maxRecDepth 100000 in
theorem ggX11_miles_X11_refuse : GoodIn wsX11_miles wsX11_refuse := goodIn_sub (mmC (mmI il_X11_miles_1 11 rfl) (mmA (mmC (mmI il_X11_miles_1 12 rfl) mmN) il_X11_miles_2)) gw_X11_refuse
theorem gX11_miles_X11_refuse : GoodIn wsX11_miles (wsV RX11 153 RX11 yX11_refuse wsX11_refuse) := goodIn_app (goodIn_sub (mmC (mmI il_X11_miles_1 8 rfl) (mmC (mmI il_X11_miles_1 9 rfl) (mmC (mmI il_X11_miles_1 10 rfl) (mmC (mmI il_X11_miles_1 3 rfl) mmN)))) (by decide +kernel)) ggX11_miles_X11_refuse
theorem dX11_miles_0 : decode cX11_miles 0 = .ok (.iload_n 1, 1) := by decide +kernel
theorem dX11_miles_1 : decode cX11_miles 1 = .ok (.invokestatic 174, 3) := by decide +kernel
theorem dX11_miles_4 : decode cX11_miles 4 = .ok (.ifCond .eq 15, 3) := by decide +kernel
theorem dX11_miles_7 : decode cX11_miles 7 = .ok (.iload_n 2, 1) := by decide +kernel
theorem dX11_miles_8 : decode cX11_miles 8 = .ok (.invokestatic 174, 3) := by decide +kernel
theorem dX11_miles_11 : decode cX11_miles 11 = .ok (.ifCond .eq 8, 3) := by decide +kernel
theorem dX11_miles_14 : decode cX11_miles 14 = .ok (.iload_n 1, 1) := by decide +kernel
theorem dX11_miles_15 : decode cX11_miles 15 = .ok (.iload_n 2, 1) := by decide +kernel
theorem dX11_miles_16 : decode cX11_miles 16 = .ok (.if_icmp .ne 9, 3) := by decide +kernel
theorem dX11_miles_19 : decode cX11_miles 19 = .ok (.aload_n 0, 1) := by decide +kernel
theorem dX11_miles_20 : decode cX11_miles 20 = .ok (.iconst (-1), 1) := by decide +kernel
theorem dX11_miles_21 : decode cX11_miles 21 = .ok (.invokevirtual 153, 3) := by decide +kernel
theorem dX11_miles_24 : decode cX11_miles 24 = .ok (.ireturn, 1) := by decide +kernel
theorem dX11_miles_25 : decode cX11_miles 25 = .ok (.iload_n 3, 1) := by decide +kernel
theorem dX11_miles_26 : decode cX11_miles 26 = .ok (.ifCond .ge 10, 3) := by decide +kernel
theorem dX11_miles_29 : decode cX11_miles 29 = .ok (.aload_n 0, 1) := by decide +kernel
theorem dX11_miles_30 : decode cX11_miles 30 = .ok (.bipush (-4), 2) := by decide +kernel
theorem dX11_miles_32 : decode cX11_miles 32 = .ok (.invokevirtual 153, 3) := by decide +kernel
theorem dX11_miles_35 : decode cX11_miles 35 = .ok (.ireturn, 1) := by decide +kernel
theorem dX11_miles_36 : decode cX11_miles 36 = .ok (.iload_n 3, 1) := by decide +kernel
theorem dX11_miles_37 : decode cX11_miles 37 = .ok (.sipush 9999, 3) := by decide +kernel
theorem dX11_miles_40 : decode cX11_miles 40 = .ok (.if_icmp .le 10, 3) := by decide +kernel
theorem dX11_miles_43 : decode cX11_miles 43 = .ok (.aload_n 0, 1) := by decide +kernel
theorem dX11_miles_44 : decode cX11_miles 44 = .ok (.bipush (-6), 2) := by decide +kernel
theorem dX11_miles_46 : decode cX11_miles 46 = .ok (.invokevirtual 153, 3) := by decide +kernel
theorem dX11_miles_49 : decode cX11_miles 49 = .ok (.ireturn, 1) := by decide +kernel
theorem dX11_miles_50 : decode cX11_miles 50 = .ok (.aload_n 0, 1) := by decide +kernel
theorem dX11_miles_51 : decode cX11_miles 51 = .ok (.getfield 13, 3) := by decide +kernel
theorem dX11_miles_54 : decode cX11_miles 54 = .ok (.bipush 10, 2) := by decide +kernel
theorem dX11_miles_56 : decode cX11_miles 56 = .ok (.iload_n 1, 1) := by decide +kernel
theorem dX11_miles_57 : decode cX11_miles 57 = .ok (.imul, 1) := by decide +kernel
theorem dX11_miles_58 : decode cX11_miles 58 = .ok (.iload_n 2, 1) := by decide +kernel
theorem dX11_miles_59 : decode cX11_miles 59 = .ok (.iadd, 1) := by decide +kernel
theorem dX11_miles_60 : decode cX11_miles 60 = .ok (.iaload, 1) := by decide +kernel
theorem dX11_miles_61 : decode cX11_miles 61 = .ok (.istore 4, 2) := by decide +kernel
theorem dX11_miles_63 : decode cX11_miles 63 = .ok (.aload_n 0, 1) := by decide +kernel
theorem dX11_miles_64 : decode cX11_miles 64 = .ok (.getfield 13, 3) := by decide +kernel
theorem dX11_miles_67 : decode cX11_miles 67 = .ok (.bipush 10, 2) := by decide +kernel
theorem dX11_miles_69 : decode cX11_miles 69 = .ok (.iload_n 1, 1) := by decide +kernel
theorem dX11_miles_70 : decode cX11_miles 70 = .ok (.imul, 1) := by decide +kernel
theorem dX11_miles_71 : decode cX11_miles 71 = .ok (.iload_n 2, 1) := by decide +kernel
theorem dX11_miles_72 : decode cX11_miles 72 = .ok (.iadd, 1) := by decide +kernel
theorem dX11_miles_73 : decode cX11_miles 73 = .ok (.iload_n 3, 1) := by decide +kernel
theorem dX11_miles_74 : decode cX11_miles 74 = .ok (.iastore, 1) := by decide +kernel
theorem dX11_miles_75 : decode cX11_miles 75 = .ok (.aload_n 0, 1) := by decide +kernel
theorem dX11_miles_76 : decode cX11_miles 76 = .ok (.getfield 13, 3) := by decide +kernel
theorem dX11_miles_79 : decode cX11_miles 79 = .ok (.bipush 10, 2) := by decide +kernel
theorem dX11_miles_81 : decode cX11_miles 81 = .ok (.iload_n 2, 1) := by decide +kernel
theorem dX11_miles_82 : decode cX11_miles 82 = .ok (.imul, 1) := by decide +kernel
theorem dX11_miles_83 : decode cX11_miles 83 = .ok (.iload_n 1, 1) := by decide +kernel
theorem dX11_miles_84 : decode cX11_miles 84 = .ok (.iadd, 1) := by decide +kernel
theorem dX11_miles_85 : decode cX11_miles 85 = .ok (.iload_n 3, 1) := by decide +kernel
theorem dX11_miles_86 : decode cX11_miles 86 = .ok (.iastore, 1) := by decide +kernel
theorem dX11_miles_87 : decode cX11_miles 87 = .ok (.iload 4, 2) := by decide +kernel
theorem dX11_miles_89 : decode cX11_miles 89 = .ok (.ireturn, 1) := by decide +kernel
set_option maxRecDepth 100000 in
theorem ggX11_put_X11_refuse : GoodIn wsX11_put wsX11_refuse := goodIn_sub (mmC (mmI il_X11_put_1 6 rfl) (mmA (mmC (mmI il_X11_put_1 7 rfl) mmN) il_X11_put_2)) gw_X11_refuse
theorem gX11_put_X11_refuse : GoodIn wsX11_put (wsV RX11 153 RX11 yX11_refuse wsX11_refuse) := goodIn_app (goodIn_sub (mmC (mmI il_X11_put_1 2 rfl) (mmC (mmI il_X11_put_1 3 rfl) (mmC (mmI il_X11_put_1 4 rfl) (mmC (mmI il_X11_put_1 5 rfl) mmN)))) (by decide +kernel)) ggX11_put_X11_refuse
theorem dX11_put_0 : decode cX11_put 0 = .ok (.aload_n 0, 1) := by decide +kernel
theorem dX11_put_1 : decode cX11_put 1 = .ok (.getfield 357, 3) := by decide +kernel
theorem dX11_put_4 : decode cX11_put 4 = .ok (.bipush 12, 2) := by decide +kernel
theorem dX11_put_6 : decode cX11_put 6 = .ok (.if_icmp .ne 10, 3) := by decide +kernel
theorem dX11_put_9 : decode cX11_put 9 = .ok (.aload_n 0, 1) := by decide +kernel
theorem dX11_put_10 : decode cX11_put 10 = .ok (.bipush (-6), 2) := by decide +kernel
theorem dX11_put_12 : decode cX11_put 12 = .ok (.invokevirtual 153, 3) := by decide +kernel
theorem dX11_put_15 : decode cX11_put 15 = .ok (.ireturn, 1) := by decide +kernel
theorem dX11_put_16 : decode cX11_put 16 = .ok (.aload_n 0, 1) := by decide +kernel
theorem dX11_put_17 : decode cX11_put 17 = .ok (.getfield 149, 3) := by decide +kernel
theorem dX11_put_20 : decode cX11_put 20 = .ok (.aload_n 0, 1) := by decide +kernel
theorem dX11_put_21 : decode cX11_put 21 = .ok (.getfield 357, 3) := by decide +kernel
theorem dX11_put_24 : decode cX11_put 24 = .ok (.iload_n 1, 1) := by decide +kernel
theorem dX11_put_25 : decode cX11_put 25 = .ok (.iastore, 1) := by decide +kernel
theorem dX11_put_26 : decode cX11_put 26 = .ok (.aload_n 0, 1) := by decide +kernel
theorem dX11_put_27 : decode cX11_put 27 = .ok (.dup, 1) := by decide +kernel
theorem dX11_put_28 : decode cX11_put 28 = .ok (.getfield 357, 3) := by decide +kernel
theorem dX11_put_31 : decode cX11_put 31 = .ok (.iconst 1, 1) := by decide +kernel
theorem dX11_put_32 : decode cX11_put 32 = .ok (.iadd, 1) := by decide +kernel
theorem dX11_put_33 : decode cX11_put 33 = .ok (.putfield 357, 3) := by decide +kernel
theorem dX11_put_36 : decode cX11_put 36 = .ok (.aload_n 0, 1) := by decide +kernel
theorem dX11_put_37 : decode cX11_put 37 = .ok (.getfield 357, 3) := by decide +kernel
theorem dX11_put_40 : decode cX11_put 40 = .ok (.ireturn, 1) := by decide +kernel
theorem in_wsX11_put_X11 : ∀ w ∈ wsX110, w ∈ wsX11_put := fun w h => List.mem_cons_of_mem _ (List.mem_append_right _ h)
theorem in_wsX11_miles_X11 : ∀ w ∈ wsX110, w ∈ wsX11_miles := fun w h => List.mem_cons_of_mem _ (List.mem_append_right _ h)

theorem i_lt (a b : Int32) : a < b ↔ a.toInt < b.toInt := Int32.lt_iff_toInt_lt
theorem i_le (a b : Int32) : a ≤ b ↔ a.toInt ≤ b.toInt := Int32.le_iff_toInt_le
theorem isI_nz {v n : Int32} (h : ¬ isI v n = 0) : 0 ≤ v.toInt ∧ v.toInt < n.toInt := by
  unfold isI at h
  split at h
  · exact absurd rfl h
  · rename_i h1
    split at h
    · exact absurd rfl h
    · rename_i h2
      rw [i_lt] at h1
      rw [i_le] at h2
      exact ⟨by have : (0 : Int32).toInt = 0 := by decide
                omega, by omega⟩