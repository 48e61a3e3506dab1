def tyX11 : Nat → FieldType := fun k => match k with
  | 0 => .array .int
  | 1 => .array .int
  | 2 => .array .int
  | 3 => .array .int
  | 4 => .array .int
  | 5 => .array .int
  | 6 => .array .int
  | 7 => .array .int
  | 8 => .array .int
  | 9 => .array .int
  | 10 => .array .int
  | 11 => .array .int
  | 12 => .array .int
  | 13 => .array .int
  | 14 => .array .int
  | 15 => .array .int
  | 16 => .array .int
  | 17 => .array .int
  | 18 => .array .int
  | 19 => .array .int
  | 20 => .array .int
  | 21 => .array .int
  | 22 => .array .int
  | 23 => .array .int
  | 24 => .array .int
  | 25 => .array .int
  | 26 => .array .int
  | 27 => .array .int
  | 28 => .array .int
  | 29 => .array .int
  | 30 => .array .int
  | 31 => .array .int
  | 32 => .array .int
  | 33 => .array .int
  | 34 => .array .int
  | 35 => .array .int
  | 36 => .array .int
  | 37 => .array .boolean
  | 38 => .int
  | 39 => .int
  | 40 => .int
  | 41 => .int
  | 42 => .int
  | 43 => .int
  | 44 => .array .int
  | 45 => .array .int
  | 46 => .int
  | 47 => .int
  | 48 => .int
  | 49 => .int
  | 50 => .int
  | 51 => .boolean
  | 52 => .array .int
  | 53 => .array .int
  | 54 => .array .int
  | 55 => .array .int
  | 56 => .array .int
  | 57 => .array .int
  | 58 => .int
  | 59 => .int
  | 60 => .int
  | 61 => .array .int
  | _ => .int
theorem nmX11 : ∀ a, a < 63 → ∀ b, b < 63 → a ≠ b → (TX11 a).2.1 ≠ (TX11 b).2.1 := by decide +kernel
theorem tyX11_ok : ∀ k, k < 63 → parseFieldDescriptor (TX11 k).2.2.1 = some (tyX11 k) := by decide +kernel
abbrev cX11_days : ByteArray := prog_13_method_9_code
def yX11_days : MethodName := ⟨RX11, "days", "(I)I"⟩
theorem gw_X11_refuse : wsX11_refuse.all goodWord = true := by decide +kernel
def wsX11_days : List Cond := .code yX11_days cX11_days 2 (some .int) :: ([.fieldLink RX11 171 "ShipOfficeModel" "now" "I", .methodLink RX11 153 yX11_refuse, .instanceMethod yX11_refuse, .selects RX11 yX11_refuse yX11_refuse, .initialized RX11, .code yX11_refuse cX11_refuse 2 (some .int), .fieldLink RX11 7 "ShipOfficeModel" "refusals" "[I"] ++ wsX110)
theorem il_X11_days_1 : ∀ w ∈ ([.fieldLink RX11 171 "ShipOfficeModel" "now" "I", .methodLink RX11 153 yX11_refuse, .instanceMethod yX11_refuse, .selects RX11 yX11_refuse yX11_refuse, .initialized RX11, .code yX11_refuse cX11_refuse 2 (some .int), .fieldLink RX11 7 "ShipOfficeModel" "refusals" "[I"] : List Cond), w ∈ wsX11_days := fun w h => (List.mem_cons_of_mem _ (List.mem_append_left _ h))
theorem il_X11_days_2 : ∀ w ∈ wsX110, w ∈ wsX11_days := fun w h => (List.mem_cons_of_mem _ (List.mem_append_right _ h))
theorem iw_X11_days_1 : Cond.fieldLink RX11 171 "ShipOfficeModel" "now" "I" ∈ wsX11_days := (mmI il_X11_days_1 0 rfl)
set_option maxRecDepth 100000 in
theorem ggX11_days_X11_refuse : GoodIn wsX11_days wsX11_refuse := goodIn_sub (mmC (mmI il_X11_days_1 5 rfl) (mmA (mmC (mmI il_X11_days_1 6 rfl) mmN) il_X11_days_2)) gw_X11_refuse
theorem gX11_days_X11_refuse : GoodIn wsX11_days (wsV RX11 153 RX11 yX11_refuse wsX11_refuse) := goodIn_app (goodIn_sub (mmC (mmI il_X11_days_1 1 rfl) (mmC (mmI il_X11_days_1 2 rfl) (mmC (mmI il_X11_days_1 3 rfl) (mmC (mmI il_X11_days_1 4 rfl) mmN)))) (by decide +kernel)) ggX11_days_X11_refuse
theorem dX11_days_0 : decode cX11_days 0 = .ok (.iload_n 1, 1) := by decide +kernel
theorem dX11_days_1 : decode cX11_days 1 = .ok (.iconst 1, 1) := by decide +kernel
theorem dX11_days_2 : decode cX11_days 2 = .ok (.if_icmp .ge 10, 3) := by decide +kernel
theorem dX11_days_5 : decode cX11_days 5 = .ok (.aload_n 0, 1) := by decide +kernel
theorem dX11_days_6 : decode cX11_days 6 = .ok (.bipush (-4), 2) := by decide +kernel
theorem dX11_days_8 : decode cX11_days 8 = .ok (.invokevirtual 153, 3) := by decide +kernel
theorem dX11_days_11 : decode cX11_days 11 = .ok (.ireturn, 1) := by decide +kernel
theorem dX11_days_12 : decode cX11_days 12 = .ok (.iload_n 1, 1) := by decide +kernel
theorem dX11_days_13 : decode cX11_days 13 = .ok (.sipush 3000, 3) := by decide +kernel
theorem dX11_days_16 : decode cX11_days 16 = .ok (.aload_n 0, 1) := by decide +kernel
theorem dX11_days_17 : decode cX11_days 17 = .ok (.getfield 171, 3) := by decide +kernel
theorem dX11_days_20 : decode cX11_days 20 = .ok (.isub, 1) := by decide +kernel
theorem dX11_days_21 : decode cX11_days 21 = .ok (.if_icmp .le 10, 3) := by decide +kernel
theorem dX11_days_24 : decode cX11_days 24 = .ok (.aload_n 0, 1) := by decide +kernel
theorem dX11_days_25 : decode cX11_days 25 = .ok (.bipush (-6), 2) := by decide +kernel
theorem dX11_days_27 : decode cX11_days 27 = .ok (.invokevirtual 153, 3) := by decide +kernel
theorem dX11_days_30 : decode cX11_days 30 = .ok (.ireturn, 1) := by decide +kernel
theorem dX11_days_31 : decode cX11_days 31 = .ok (.aload_n 0, 1) := by decide +kernel
theorem dX11_days_32 : decode cX11_days 32 = .ok (.dup, 1) := by decide +kernel
theorem dX11_days_33 : decode cX11_days 33 = .ok (.getfield 171, 3) := by decide +kernel
theorem dX11_days_36 : decode cX11_days 36 = .ok (.iload_n 1, 1) := by decide +kernel
theorem dX11_days_37 : decode cX11_days 37 = .ok (.iadd, 1) := by decide +kernel
theorem dX11_days_38 : decode cX11_days 38 = .ok (.putfield 171, 3) := by decide +kernel
theorem dX11_days_41 : decode cX11_days 41 = .ok (.aload_n 0, 1) := by decide +kernel
theorem dX11_days_42 : decode cX11_days 42 = .ok (.getfield 171, 3) := by decide +kernel
theorem dX11_days_45 : decode cX11_days 45 = .ok (.ireturn, 1) := by decide +kernel
theorem in_wsX11_days_X11 : ∀ w ∈ wsX110, w ∈ wsX11_days := fun w h => List.mem_cons_of_mem _ (List.mem_append_right _ h)