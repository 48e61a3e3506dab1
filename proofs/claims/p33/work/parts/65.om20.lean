abbrev cX10_days : ByteArray := prog_1_method_2_code
def yX10_days : MethodName := ⟨RX10, "days", "(I)I"⟩
def wsX10_days : List Cond := .code yX10_days cX10_days 2 (some .int) :: ([.fieldLink RX10 73 "ShipOffice" "now" "I", .methodLink RX10 69 yX10_refuse, .instanceMethod yX10_refuse, .selects RX10 yX10_refuse yX10_refuse, .initialized RX10, .code yX10_refuse cX10_refuse 2 (some .int), .fieldLink RX10 66 "ShipOffice" "refusals" "[I"] ++ wsX100)
theorem il_X10_days_1 : ∀ w ∈ ([.fieldLink RX10 73 "ShipOffice" "now" "I", .methodLink RX10 69 yX10_refuse, .instanceMethod yX10_refuse, .selects RX10 yX10_refuse yX10_refuse, .initialized RX10, .code yX10_refuse cX10_refuse 2 (some .int), .fieldLink RX10 66 "ShipOffice" "refusals" "[I"] : List Cond), w ∈ wsX10_days := fun w h => (List.mem_cons_of_mem _ (List.mem_append_left _ h))
theorem il_X10_days_2 : ∀ w ∈ wsX100, w ∈ wsX10_days := fun w h => (List.mem_cons_of_mem _ (List.mem_append_right _ h))
theorem iw_X10_days_1 : Cond.fieldLink RX10 73 "ShipOffice" "now" "I" ∈ wsX10_days := (mmI il_X10_days_1 0 rfl)
set_option maxRecDepth 100000 in
theorem ggX10_days_X10_refuse : GoodIn wsX10_days wsX10_refuse := goodIn_sub (mmC (mmI il_X10_days_1 5 rfl) (mmA (mmC (mmI il_X10_days_1 6 rfl) mmN) il_X10_days_2)) gw_X10_refuse
theorem gX10_days_X10_refuse : GoodIn wsX10_days (wsV RX10 69 RX10 yX10_refuse wsX10_refuse) := goodIn_app (goodIn_sub (mmC (mmI il_X10_days_1 1 rfl) (mmC (mmI il_X10_days_1 2 rfl) (mmC (mmI il_X10_days_1 3 rfl) (mmC (mmI il_X10_days_1 4 rfl) mmN)))) (by decide +kernel)) ggX10_days_X10_refuse
theorem dX10_days_0 : decode cX10_days 0 = .ok (.iload_n 1, 1) := by decide +kernel
theorem dX10_days_1 : decode cX10_days 1 = .ok (.iconst 1, 1) := by decide +kernel
theorem dX10_days_2 : decode cX10_days 2 = .ok (.if_icmp .ge 10, 3) := by decide +kernel
theorem dX10_days_5 : decode cX10_days 5 = .ok (.aload_n 0, 1) := by decide +kernel
theorem dX10_days_6 : decode cX10_days 6 = .ok (.bipush (-4), 2) := by decide +kernel
theorem dX10_days_8 : decode cX10_days 8 = .ok (.invokevirtual 69, 3) := by decide +kernel
theorem dX10_days_11 : decode cX10_days 11 = .ok (.ireturn, 1) := by decide +kernel
theorem dX10_days_12 : decode cX10_days 12 = .ok (.iload_n 1, 1) := by decide +kernel
theorem dX10_days_13 : decode cX10_days 13 = .ok (.sipush 3000, 3) := by decide +kernel
theorem dX10_days_16 : decode cX10_days 16 = .ok (.aload_n 0, 1) := by decide +kernel
theorem dX10_days_17 : decode cX10_days 17 = .ok (.getfield 73, 3) := by decide +kernel
theorem dX10_days_20 : decode cX10_days 20 = .ok (.isub, 1) := by decide +kernel
theorem dX10_days_21 : decode cX10_days 21 = .ok (.if_icmp .le 10, 3) := by decide +kernel
theorem dX10_days_24 : decode cX10_days 24 = .ok (.aload_n 0, 1) := by decide +kernel
theorem dX10_days_25 : decode cX10_days 25 = .ok (.bipush (-6), 2) := by decide +kernel
theorem dX10_days_27 : decode cX10_days 27 = .ok (.invokevirtual 69, 3) := by decide +kernel
theorem dX10_days_30 : decode cX10_days 30 = .ok (.ireturn, 1) := by decide +kernel
theorem dX10_days_31 : decode cX10_days 31 = .ok (.aload_n 0, 1) := by decide +kernel
theorem dX10_days_32 : decode cX10_days 32 = .ok (.dup, 1) := by decide +kernel
theorem dX10_days_33 : decode cX10_days 33 = .ok (.getfield 73, 3) := by decide +kernel
theorem dX10_days_36 : decode cX10_days 36 = .ok (.iload_n 1, 1) := by decide +kernel
theorem dX10_days_37 : decode cX10_days 37 = .ok (.iadd, 1) := by decide +kernel
theorem dX10_days_38 : decode cX10_days 38 = .ok (.putfield 73, 3) := by decide +kernel
theorem dX10_days_41 : decode cX10_days 41 = .ok (.aload_n 0, 1) := by decide +kernel
theorem dX10_days_42 : decode cX10_days 42 = .ok (.getfield 73, 3) := by decide +kernel
theorem dX10_days_45 : decode cX10_days 45 = .ok (.ireturn, 1) := by decide +kernel
theorem in_wsX10_days_X10 : ∀ w ∈ wsX100, w ∈ wsX10_days := fun w h => List.mem_cons_of_mem _ (List.mem_append_right _ h)
/-- what days(n) answers on day a, and the day behind it -/
def odays (a n r a1 : Int) : Prop := (n < 1 ∧ r = -4 ∧ a1 = a) ∨ (1 ≤ n ∧ 3000 - a < n ∧ r = -6 ∧ a1 = a) ∨ (1 ≤ n ∧ n ≤ 3000 - a ∧ r = a + n ∧ a1 = a + n)