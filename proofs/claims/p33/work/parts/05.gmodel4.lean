abbrev cX11_actOn : ByteArray := prog_13_method_36_code
def yX11_actOn : MethodName := ⟨RX11, "actOn", "(II)I"⟩
abbrev cX11_sailedOn : ByteArray := prog_13_method_40_code
def yX11_sailedOn : MethodName := ⟨RX11, "sailedOn", "(II)I"⟩
abbrev cX11_lastHeard : ByteArray := prog_13_method_41_code
def yX11_lastHeard : MethodName := ⟨RX11, "lastHeard", "(III)I"⟩
abbrev cX11_whereOf : ByteArray := prog_13_method_42_code
def yX11_whereOf : MethodName := ⟨RX11, "whereOf", "(III)I"⟩
abbrev cX11_isDead : ByteArray := prog_13_method_43_code
def yX11_isDead : MethodName := ⟨RX11, "isDead", "(III)Z"⟩
def wsX11_actOn : List Cond := .code yX11_actOn cX11_actOn 5 (some .int) :: ([.fieldLink RX11 256 "ShipOfficeModel" "acts" "I", .fieldLink RX11 61 "ShipOfficeModel" "purpose" "[I", .fieldLink RX11 64 "ShipOfficeModel" "from" "[I"] ++ wsX110)
theorem il_X11_actOn_1 : ∀ w ∈ ([.fieldLink RX11 256 "ShipOfficeModel" "acts" "I", .fieldLink RX11 61 "ShipOfficeModel" "purpose" "[I", .fieldLink RX11 64 "ShipOfficeModel" "from" "[I"] : List Cond), w ∈ wsX11_actOn := fun w h => (List.mem_cons_of_mem _ (List.mem_append_left _ h))
theorem iw_X11_actOn_1 : Cond.fieldLink RX11 256 "ShipOfficeModel" "acts" "I" ∈ wsX11_actOn := (mmI il_X11_actOn_1 0 rfl)
theorem iw_X11_actOn_2 : Cond.fieldLink RX11 61 "ShipOfficeModel" "purpose" "[I" ∈ wsX11_actOn := (mmI il_X11_actOn_1 1 rfl)
theorem iw_X11_actOn_3 : Cond.fieldLink RX11 64 "ShipOfficeModel" "from" "[I" ∈ wsX11_actOn := (mmI il_X11_actOn_1 2 rfl)
def wsX11_isDead : List Cond := .code yX11_isDead cX11_isDead 5 (some .boolean) :: ([.fieldLink RX11 179 "ShipOfficeModel" "happened" "I", .fieldLink RX11 40 "ShipOfficeModel" "what" "[I", .fieldLink RX11 43 "ShipOfficeModel" "whose" "[I", .fieldLink RX11 73 "ShipOfficeModel" "voyage" "[I", .fieldLink RX11 49 "ShipOfficeModel" "known" "[I", .fieldLink RX11 46 "ShipOfficeModel" "day" "[I"] ++ wsX110)
theorem il_X11_isDead_1 : ∀ w ∈ ([.fieldLink RX11 179 "ShipOfficeModel" "happened" "I", .fieldLink RX11 40 "ShipOfficeModel" "what" "[I", .fieldLink RX11 43 "ShipOfficeModel" "whose" "[I", .fieldLink RX11 73 "ShipOfficeModel" "voyage" "[I", .fieldLink RX11 49 "ShipOfficeModel" "known" "[I", .fieldLink RX11 46 "ShipOfficeModel" "day" "[I"] : List Cond), w ∈ wsX11_isDead := fun w h => (List.mem_cons_of_mem _ (List.mem_append_left _ h))
theorem iw_X11_isDead_1 : Cond.fieldLink RX11 179 "ShipOfficeModel" "happened" "I" ∈ wsX11_isDead := (mmI il_X11_isDead_1 0 rfl)
theorem iw_X11_isDead_2 : Cond.fieldLink RX11 40 "ShipOfficeModel" "what" "[I" ∈ wsX11_isDead := (mmI il_X11_isDead_1 1 rfl)
theorem iw_X11_isDead_3 : Cond.fieldLink RX11 43 "ShipOfficeModel" "whose" "[I" ∈ wsX11_isDead := (mmI il_X11_isDead_1 2 rfl)
theorem iw_X11_isDead_4 : Cond.fieldLink RX11 73 "ShipOfficeModel" "voyage" "[I" ∈ wsX11_isDead := (mmI il_X11_isDead_1 3 rfl)
theorem iw_X11_isDead_5 : Cond.fieldLink RX11 49 "ShipOfficeModel" "known" "[I" ∈ wsX11_isDead := (mmI il_X11_isDead_1 4 rfl)
theorem iw_X11_isDead_6 : Cond.fieldLink RX11 46 "ShipOfficeModel" "day" "[I" ∈ wsX11_isDead := (mmI il_X11_isDead_1 5 rfl)
def wsX11_whereOf : List Cond := .code yX11_whereOf cX11_whereOf 6 (some .int) :: ([.fieldLink RX11 179 "ShipOfficeModel" "happened" "I", .fieldLink RX11 40 "ShipOfficeModel" "what" "[I", .fieldLink RX11 43 "ShipOfficeModel" "whose" "[I", .fieldLink RX11 49 "ShipOfficeModel" "known" "[I", .fieldLink RX11 46 "ShipOfficeModel" "day" "[I"] ++ wsX110)
theorem il_X11_whereOf_1 : ∀ w ∈ ([.fieldLink RX11 179 "ShipOfficeModel" "happened" "I", .fieldLink RX11 40 "ShipOfficeModel" "what" "[I", .fieldLink RX11 43 "ShipOfficeModel" "whose" "[I", .fieldLink RX11 49 "ShipOfficeModel" "known" "[I", .fieldLink RX11 46 "ShipOfficeModel" "day" "[I"] : List Cond), w ∈ wsX11_whereOf := fun w h => (List.mem_cons_of_mem _ (List.mem_append_left _ h))
theorem iw_X11_whereOf_1 : Cond.fieldLink RX11 179 "ShipOfficeModel" "happened" "I" ∈ wsX11_whereOf := (mmI il_X11_whereOf_1 0 rfl)
theorem iw_X11_whereOf_2 : Cond.fieldLink RX11 40 "ShipOfficeModel" "what" "[I" ∈ wsX11_whereOf := (mmI il_X11_whereOf_1 1 rfl)
theorem iw_X11_whereOf_3 : Cond.fieldLink RX11 43 "ShipOfficeModel" "whose" "[I" ∈ wsX11_whereOf := (mmI il_X11_whereOf_1 2 rfl)
theorem iw_X11_whereOf_4 : Cond.fieldLink RX11 49 "ShipOfficeModel" "known" "[I" ∈ wsX11_whereOf := (mmI il_X11_whereOf_1 3 rfl)
theorem iw_X11_whereOf_5 : Cond.fieldLink RX11 46 "ShipOfficeModel" "day" "[I" ∈ wsX11_whereOf := (mmI il_X11_whereOf_1 4 rfl)
def wsX11_sailedOn : List Cond := .code yX11_sailedOn cX11_sailedOn 4 (some .int) :: ([.fieldLink RX11 179 "ShipOfficeModel" "happened" "I", .fieldLink RX11 40 "ShipOfficeModel" "what" "[I", .fieldLink RX11 43 "ShipOfficeModel" "whose" "[I", .fieldLink RX11 49 "ShipOfficeModel" "known" "[I", .fieldLink RX11 46 "ShipOfficeModel" "day" "[I"] ++ wsX110)
theorem il_X11_sailedOn_1 : ∀ w ∈ ([.fieldLink RX11 179 "ShipOfficeModel" "happened" "I", .fieldLink RX11 40 "ShipOfficeModel" "what" "[I", .fieldLink RX11 43 "ShipOfficeModel" "whose" "[I", .fieldLink RX11 49 "ShipOfficeModel" "known" "[I", .fieldLink RX11 46 "ShipOfficeModel" "day" "[I"] : List Cond), w ∈ wsX11_sailedOn := fun w h => (List.mem_cons_of_mem _ (List.mem_append_left _ h))
theorem iw_X11_sailedOn_1 : Cond.fieldLink RX11 179 "ShipOfficeModel" "happened" "I" ∈ wsX11_sailedOn := (mmI il_X11_sailedOn_1 0 rfl)
theorem iw_X11_sailedOn_2 : Cond.fieldLink RX11 40 "ShipOfficeModel" "what" "[I" ∈ wsX11_sailedOn := (mmI il_X11_sailedOn_1 1 rfl)
theorem iw_X11_sailedOn_3 : Cond.fieldLink RX11 43 "ShipOfficeModel" "whose" "[I" ∈ wsX11_sailedOn := (mmI il_X11_sailedOn_1 2 rfl)
theorem iw_X11_sailedOn_4 : Cond.fieldLink RX11 49 "ShipOfficeModel" "known" "[I" ∈ wsX11_sailedOn := (mmI il_X11_sailedOn_1 3 rfl)
theorem iw_X11_sailedOn_5 : Cond.fieldLink RX11 46 "ShipOfficeModel" "day" "[I" ∈ wsX11_sailedOn := (mmI il_X11_sailedOn_1 4 rfl)
def wsX11_lastHeard : List Cond := .code yX11_lastHeard cX11_lastHeard 6 (some .int) :: ([.fieldLink RX11 179 "ShipOfficeModel" "happened" "I", .fieldLink RX11 40 "ShipOfficeModel" "what" "[I", .fieldLink RX11 43 "ShipOfficeModel" "whose" "[I", .fieldLink RX11 49 "ShipOfficeModel" "known" "[I", .fieldLink RX11 46 "ShipOfficeModel" "day" "[I"] ++ wsX110)
theorem il_X11_lastHeard_1 : ∀ w ∈ ([.fieldLink RX11 179 "ShipOfficeModel" "happened" "I", .fieldLink RX11 40 "ShipOfficeModel" "what" "[I", .fieldLink RX11 43 "ShipOfficeModel" "whose" "[I", .fieldLink RX11 49 "ShipOfficeModel" "known" "[I", .fieldLink RX11 46 "ShipOfficeModel" "day" "[I"] : List Cond), w ∈ wsX11_lastHeard := fun w h => (List.mem_cons_of_mem _ (List.mem_append_left _ h))
theorem iw_X11_lastHeard_1 : Cond.fieldLink RX11 179 "ShipOfficeModel" "happened" "I" ∈ wsX11_lastHeard := (mmI il_X11_lastHeard_1 0 rfl)
theorem iw_X11_lastHeard_2 : Cond.fieldLink RX11 40 "ShipOfficeModel" "what" "[I" ∈ wsX11_lastHeard := (mmI il_X11_lastHeard_1 1 rfl)
theorem iw_X11_lastHeard_3 : Cond.fieldLink RX11 43 "ShipOfficeModel" "whose" "[I" ∈ wsX11_lastHeard := (mmI il_X11_lastHeard_1 2 rfl)
theorem iw_X11_lastHeard_4 : Cond.fieldLink RX11 49 "ShipOfficeModel" "known" "[I" ∈ wsX11_lastHeard := (mmI il_X11_lastHeard_1 3 rfl)
theorem iw_X11_lastHeard_5 : Cond.fieldLink RX11 46 "ShipOfficeModel" "day" "[I" ∈ wsX11_lastHeard := (mmI il_X11_lastHeard_1 4 rfl)
theorem dX11_actOn_0 : decode cX11_actOn 0 = .ok (.iconst (-1), 1) := by decide +kernel
theorem dX11_actOn_1 : decode cX11_actOn 1 = .ok (.istore_n 3, 1) := by decide +kernel
theorem dX11_actOn_2 : decode cX11_actOn 2 = .ok (.iconst 0, 1) := by decide +kernel
theorem dX11_actOn_3 : decode cX11_actOn 3 = .ok (.istore 4, 2) := by decide +kernel
theorem dX11_actOn_5 : decode cX11_actOn 5 = .ok (.iload 4, 2) := by decide +kernel
theorem dX11_actOn_7 : decode cX11_actOn 7 = .ok (.aload_n 0, 1) := by decide +kernel
theorem dX11_actOn_8 : decode cX11_actOn 8 = .ok (.getfield 256, 3) := by decide +kernel
theorem dX11_actOn_11 : decode cX11_actOn 11 = .ok (.if_icmp .ge 54, 3) := by decide +kernel
theorem dX11_actOn_14 : decode cX11_actOn 14 = .ok (.aload_n 0, 1) := by decide +kernel
theorem dX11_actOn_15 : decode cX11_actOn 15 = .ok (.getfield 61, 3) := by decide +kernel
theorem dX11_actOn_18 : decode cX11_actOn 18 = .ok (.iload 4, 2) := by decide +kernel
theorem dX11_actOn_20 : decode cX11_actOn 20 = .ok (.iaload, 1) := by decide +kernel
theorem dX11_actOn_21 : decode cX11_actOn 21 = .ok (.iload_n 1, 1) := by decide +kernel
theorem dX11_actOn_22 : decode cX11_actOn 22 = .ok (.if_icmp .ne 37, 3) := by decide +kernel
theorem dX11_actOn_25 : decode cX11_actOn 25 = .ok (.aload_n 0, 1) := by decide +kernel
theorem dX11_actOn_26 : decode cX11_actOn 26 = .ok (.getfield 64, 3) := by decide +kernel
theorem dX11_actOn_29 : decode cX11_actOn 29 = .ok (.iload 4, 2) := by decide +kernel
theorem dX11_actOn_31 : decode cX11_actOn 31 = .ok (.iaload, 1) := by decide +kernel
theorem dX11_actOn_32 : decode cX11_actOn 32 = .ok (.iload_n 2, 1) := by decide +kernel
theorem dX11_actOn_33 : decode cX11_actOn 33 = .ok (.if_icmp .gt 26, 3) := by decide +kernel
theorem dX11_actOn_36 : decode cX11_actOn 36 = .ok (.iload_n 3, 1) := by decide +kernel
theorem dX11_actOn_37 : decode cX11_actOn 37 = .ok (.ifCond .lt 19, 3) := by decide +kernel
theorem dX11_actOn_40 : decode cX11_actOn 40 = .ok (.aload_n 0, 1) := by decide +kernel
theorem dX11_actOn_41 : decode cX11_actOn 41 = .ok (.getfield 64, 3) := by decide +kernel
theorem dX11_actOn_44 : decode cX11_actOn 44 = .ok (.iload 4, 2) := by decide +kernel
theorem dX11_actOn_46 : decode cX11_actOn 46 = .ok (.iaload, 1) := by decide +kernel
theorem dX11_actOn_47 : decode cX11_actOn 47 = .ok (.aload_n 0, 1) := by decide +kernel
theorem dX11_actOn_48 : decode cX11_actOn 48 = .ok (.getfield 64, 3) := by decide +kernel
theorem dX11_actOn_51 : decode cX11_actOn 51 = .ok (.iload_n 3, 1) := by decide +kernel
theorem dX11_actOn_52 : decode cX11_actOn 52 = .ok (.iaload, 1) := by decide +kernel
theorem dX11_actOn_53 : decode cX11_actOn 53 = .ok (.if_icmp .lt 6, 3) := by decide +kernel
theorem dX11_actOn_56 : decode cX11_actOn 56 = .ok (.iload 4, 2) := by decide +kernel
theorem dX11_actOn_58 : decode cX11_actOn 58 = .ok (.istore_n 3, 1) := by decide +kernel
theorem dX11_actOn_59 : decode cX11_actOn 59 = .ok (.iinc 4 1, 3) := by decide +kernel
theorem dX11_actOn_62 : decode cX11_actOn 62 = .ok (.goto (-57), 3) := by decide +kernel
theorem dX11_actOn_65 : decode cX11_actOn 65 = .ok (.iload_n 3, 1) := by decide +kernel
theorem dX11_actOn_66 : decode cX11_actOn 66 = .ok (.ireturn, 1) := by decide +kernel
theorem dX11_sailedOn_0 : decode cX11_sailedOn 0 = .ok (.iconst 0, 1) := by decide +kernel
theorem dX11_sailedOn_1 : decode cX11_sailedOn 1 = .ok (.istore_n 3, 1) := by decide +kernel
theorem dX11_sailedOn_2 : decode cX11_sailedOn 2 = .ok (.iload_n 3, 1) := by decide +kernel
theorem dX11_sailedOn_3 : decode cX11_sailedOn 3 = .ok (.aload_n 0, 1) := by decide +kernel
theorem dX11_sailedOn_4 : decode cX11_sailedOn 4 = .ok (.getfield 179, 3) := by decide +kernel
theorem dX11_sailedOn_7 : decode cX11_sailedOn 7 = .ok (.if_icmp .ge 45, 3) := by decide +kernel
theorem dX11_sailedOn_10 : decode cX11_sailedOn 10 = .ok (.aload_n 0, 1) := by decide +kernel
theorem dX11_sailedOn_11 : decode cX11_sailedOn 11 = .ok (.getfield 40, 3) := by decide +kernel
theorem dX11_sailedOn_14 : decode cX11_sailedOn 14 = .ok (.iload_n 3, 1) := by decide +kernel
theorem dX11_sailedOn_15 : decode cX11_sailedOn 15 = .ok (.iaload, 1) := by decide +kernel
theorem dX11_sailedOn_16 : decode cX11_sailedOn 16 = .ok (.ifCond .ne 30, 3) := by decide +kernel
theorem dX11_sailedOn_19 : decode cX11_sailedOn 19 = .ok (.aload_n 0, 1) := by decide +kernel
theorem dX11_sailedOn_20 : decode cX11_sailedOn 20 = .ok (.getfield 43, 3) := by decide +kernel
theorem dX11_sailedOn_23 : decode cX11_sailedOn 23 = .ok (.iload_n 3, 1) := by decide +kernel
theorem dX11_sailedOn_24 : decode cX11_sailedOn 24 = .ok (.iaload, 1) := by decide +kernel
theorem dX11_sailedOn_25 : decode cX11_sailedOn 25 = .ok (.iload_n 1, 1) := by decide +kernel
theorem dX11_sailedOn_26 : decode cX11_sailedOn 26 = .ok (.if_icmp .ne 20, 3) := by decide +kernel
theorem dX11_sailedOn_29 : decode cX11_sailedOn 29 = .ok (.aload_n 0, 1) := by decide +kernel
theorem dX11_sailedOn_30 : decode cX11_sailedOn 30 = .ok (.getfield 49, 3) := by decide +kernel
theorem dX11_sailedOn_33 : decode cX11_sailedOn 33 = .ok (.iload_n 3, 1) := by decide +kernel
theorem dX11_sailedOn_34 : decode cX11_sailedOn 34 = .ok (.iaload, 1) := by decide +kernel
theorem dX11_sailedOn_35 : decode cX11_sailedOn 35 = .ok (.iload_n 2, 1) := by decide +kernel
theorem dX11_sailedOn_36 : decode cX11_sailedOn 36 = .ok (.if_icmp .gt 10, 3) := by decide +kernel
theorem dX11_sailedOn_39 : decode cX11_sailedOn 39 = .ok (.aload_n 0, 1) := by decide +kernel
theorem dX11_sailedOn_40 : decode cX11_sailedOn 40 = .ok (.getfield 46, 3) := by decide +kernel
theorem dX11_sailedOn_43 : decode cX11_sailedOn 43 = .ok (.iload_n 3, 1) := by decide +kernel
theorem dX11_sailedOn_44 : decode cX11_sailedOn 44 = .ok (.iaload, 1) := by decide +kernel
theorem dX11_sailedOn_45 : decode cX11_sailedOn 45 = .ok (.ireturn, 1) := by decide +kernel
theorem dX11_sailedOn_46 : decode cX11_sailedOn 46 = .ok (.iinc 3 1, 3) := by decide +kernel
theorem dX11_sailedOn_49 : decode cX11_sailedOn 49 = .ok (.goto (-47), 3) := by decide +kernel
theorem dX11_sailedOn_52 : decode cX11_sailedOn 52 = .ok (.iconst (-1), 1) := by decide +kernel
theorem dX11_sailedOn_53 : decode cX11_sailedOn 53 = .ok (.ireturn, 1) := by decide +kernel
theorem dX11_lastHeard_0 : decode cX11_lastHeard 0 = .ok (.iconst (-1), 1) := by decide +kernel
theorem dX11_lastHeard_1 : decode cX11_lastHeard 1 = .ok (.istore 4, 2) := by decide +kernel
theorem dX11_lastHeard_3 : decode cX11_lastHeard 3 = .ok (.iconst 0, 1) := by decide +kernel
theorem dX11_lastHeard_4 : decode cX11_lastHeard 4 = .ok (.istore 5, 2) := by decide +kernel
theorem dX11_lastHeard_6 : decode cX11_lastHeard 6 = .ok (.iload 5, 2) := by decide +kernel
theorem dX11_lastHeard_8 : decode cX11_lastHeard 8 = .ok (.aload_n 0, 1) := by decide +kernel
theorem dX11_lastHeard_9 : decode cX11_lastHeard 9 = .ok (.getfield 179, 3) := by decide +kernel
theorem dX11_lastHeard_12 : decode cX11_lastHeard 12 = .ok (.if_icmp .ge 84, 3) := by decide +kernel
theorem dX11_lastHeard_15 : decode cX11_lastHeard 15 = .ok (.aload_n 0, 1) := by decide +kernel
theorem dX11_lastHeard_16 : decode cX11_lastHeard 16 = .ok (.getfield 40, 3) := by decide +kernel
theorem dX11_lastHeard_19 : decode cX11_lastHeard 19 = .ok (.iload 5, 2) := by decide +kernel
theorem dX11_lastHeard_21 : decode cX11_lastHeard 21 = .ok (.iaload, 1) := by decide +kernel
theorem dX11_lastHeard_22 : decode cX11_lastHeard 22 = .ok (.iconst 1, 1) := by decide +kernel
theorem dX11_lastHeard_23 : decode cX11_lastHeard 23 = .ok (.if_icmp .eq 13, 3) := by decide +kernel
theorem dX11_lastHeard_26 : decode cX11_lastHeard 26 = .ok (.aload_n 0, 1) := by decide +kernel
theorem dX11_lastHeard_27 : decode cX11_lastHeard 27 = .ok (.getfield 40, 3) := by decide +kernel
theorem dX11_lastHeard_30 : decode cX11_lastHeard 30 = .ok (.iload 5, 2) := by decide +kernel
theorem dX11_lastHeard_32 : decode cX11_lastHeard 32 = .ok (.iaload, 1) := by decide +kernel
theorem dX11_lastHeard_33 : decode cX11_lastHeard 33 = .ok (.ifCond .ne 57, 3) := by decide +kernel
theorem dX11_lastHeard_36 : decode cX11_lastHeard 36 = .ok (.aload_n 0, 1) := by decide +kernel
theorem dX11_lastHeard_37 : decode cX11_lastHeard 37 = .ok (.getfield 43, 3) := by decide +kernel
theorem dX11_lastHeard_40 : decode cX11_lastHeard 40 = .ok (.iload 5, 2) := by decide +kernel
theorem dX11_lastHeard_42 : decode cX11_lastHeard 42 = .ok (.iaload, 1) := by decide +kernel
theorem dX11_lastHeard_43 : decode cX11_lastHeard 43 = .ok (.iload_n 1, 1) := by decide +kernel
theorem dX11_lastHeard_44 : decode cX11_lastHeard 44 = .ok (.if_icmp .ne 46, 3) := by decide +kernel
theorem dX11_lastHeard_47 : decode cX11_lastHeard 47 = .ok (.aload_n 0, 1) := by decide +kernel
theorem dX11_lastHeard_48 : decode cX11_lastHeard 48 = .ok (.getfield 49, 3) := by decide +kernel
theorem dX11_lastHeard_51 : decode cX11_lastHeard 51 = .ok (.iload 5, 2) := by decide +kernel
theorem dX11_lastHeard_53 : decode cX11_lastHeard 53 = .ok (.iaload, 1) := by decide +kernel
theorem dX11_lastHeard_54 : decode cX11_lastHeard 54 = .ok (.iload_n 3, 1) := by decide +kernel
theorem dX11_lastHeard_55 : decode cX11_lastHeard 55 = .ok (.if_icmp .gt 35, 3) := by decide +kernel
theorem dX11_lastHeard_58 : decode cX11_lastHeard 58 = .ok (.aload_n 0, 1) := by decide +kernel
theorem dX11_lastHeard_59 : decode cX11_lastHeard 59 = .ok (.getfield 46, 3) := by decide +kernel
theorem dX11_lastHeard_62 : decode cX11_lastHeard 62 = .ok (.iload 5, 2) := by decide +kernel
theorem dX11_lastHeard_64 : decode cX11_lastHeard 64 = .ok (.iaload, 1) := by decide +kernel
theorem dX11_lastHeard_65 : decode cX11_lastHeard 65 = .ok (.iload_n 2, 1) := by decide +kernel
theorem dX11_lastHeard_66 : decode cX11_lastHeard 66 = .ok (.if_icmp .gt 24, 3) := by decide +kernel
theorem dX11_lastHeard_69 : decode cX11_lastHeard 69 = .ok (.aload_n 0, 1) := by decide +kernel
theorem dX11_lastHeard_70 : decode cX11_lastHeard 70 = .ok (.getfield 46, 3) := by decide +kernel
theorem dX11_lastHeard_73 : decode cX11_lastHeard 73 = .ok (.iload 5, 2) := by decide +kernel
theorem dX11_lastHeard_75 : decode cX11_lastHeard 75 = .ok (.iaload, 1) := by decide +kernel
theorem dX11_lastHeard_76 : decode cX11_lastHeard 76 = .ok (.iload 4, 2) := by decide +kernel
theorem dX11_lastHeard_78 : decode cX11_lastHeard 78 = .ok (.if_icmp .le 12, 3) := by decide +kernel
theorem dX11_lastHeard_81 : decode cX11_lastHeard 81 = .ok (.aload_n 0, 1) := by decide +kernel
theorem dX11_lastHeard_82 : decode cX11_lastHeard 82 = .ok (.getfield 46, 3) := by decide +kernel
theorem dX11_lastHeard_85 : decode cX11_lastHeard 85 = .ok (.iload 5, 2) := by decide +kernel
theorem dX11_lastHeard_87 : decode cX11_lastHeard 87 = .ok (.iaload, 1) := by decide +kernel
theorem dX11_lastHeard_88 : decode cX11_lastHeard 88 = .ok (.istore 4, 2) := by decide +kernel
theorem dX11_lastHeard_90 : decode cX11_lastHeard 90 = .ok (.iinc 5 1, 3) := by decide +kernel
theorem dX11_lastHeard_93 : decode cX11_lastHeard 93 = .ok (.goto (-87), 3) := by decide +kernel
theorem dX11_lastHeard_96 : decode cX11_lastHeard 96 = .ok (.iload 4, 2) := by decide +kernel
theorem dX11_lastHeard_98 : decode cX11_lastHeard 98 = .ok (.ireturn, 1) := by decide +kernel
theorem dX11_whereOf_0 : decode cX11_whereOf 0 = .ok (.iconst (-1), 1) := by decide +kernel
theorem dX11_whereOf_1 : decode cX11_whereOf 1 = .ok (.istore 4, 2) := by decide +kernel
theorem dX11_whereOf_3 : decode cX11_whereOf 3 = .ok (.iconst 0, 1) := by decide +kernel
theorem dX11_whereOf_4 : decode cX11_whereOf 4 = .ok (.istore 5, 2) := by decide +kernel
theorem dX11_whereOf_6 : decode cX11_whereOf 6 = .ok (.iload 5, 2) := by decide +kernel
theorem dX11_whereOf_8 : decode cX11_whereOf 8 = .ok (.aload_n 0, 1) := by decide +kernel
theorem dX11_whereOf_9 : decode cX11_whereOf 9 = .ok (.getfield 179, 3) := by decide +kernel
theorem dX11_whereOf_12 : decode cX11_whereOf 12 = .ok (.if_icmp .ge 93, 3) := by decide +kernel
theorem dX11_whereOf_15 : decode cX11_whereOf 15 = .ok (.aload_n 0, 1) := by decide +kernel
theorem dX11_whereOf_16 : decode cX11_whereOf 16 = .ok (.getfield 40, 3) := by decide +kernel
theorem dX11_whereOf_19 : decode cX11_whereOf 19 = .ok (.iload 5, 2) := by decide +kernel
theorem dX11_whereOf_21 : decode cX11_whereOf 21 = .ok (.iaload, 1) := by decide +kernel
theorem dX11_whereOf_22 : decode cX11_whereOf 22 = .ok (.iconst 3, 1) := by decide +kernel
theorem dX11_whereOf_23 : decode cX11_whereOf 23 = .ok (.if_icmp .eq 14, 3) := by decide +kernel
theorem dX11_whereOf_26 : decode cX11_whereOf 26 = .ok (.aload_n 0, 1) := by decide +kernel
theorem dX11_whereOf_27 : decode cX11_whereOf 27 = .ok (.getfield 40, 3) := by decide +kernel
theorem dX11_whereOf_30 : decode cX11_whereOf 30 = .ok (.iload 5, 2) := by decide +kernel
theorem dX11_whereOf_32 : decode cX11_whereOf 32 = .ok (.iaload, 1) := by decide +kernel
theorem dX11_whereOf_33 : decode cX11_whereOf 33 = .ok (.iconst 5, 1) := by decide +kernel
theorem dX11_whereOf_34 : decode cX11_whereOf 34 = .ok (.if_icmp .ne 65, 3) := by decide +kernel
theorem dX11_whereOf_37 : decode cX11_whereOf 37 = .ok (.aload_n 0, 1) := by decide +kernel
theorem dX11_whereOf_38 : decode cX11_whereOf 38 = .ok (.getfield 43, 3) := by decide +kernel
theorem dX11_whereOf_41 : decode cX11_whereOf 41 = .ok (.iload 5, 2) := by decide +kernel
theorem dX11_whereOf_43 : decode cX11_whereOf 43 = .ok (.iaload, 1) := by decide +kernel
theorem dX11_whereOf_44 : decode cX11_whereOf 44 = .ok (.iload_n 1, 1) := by decide +kernel
theorem dX11_whereOf_45 : decode cX11_whereOf 45 = .ok (.if_icmp .ne 54, 3) := by decide +kernel
theorem dX11_whereOf_48 : decode cX11_whereOf 48 = .ok (.aload_n 0, 1) := by decide +kernel
theorem dX11_whereOf_49 : decode cX11_whereOf 49 = .ok (.getfield 49, 3) := by decide +kernel
theorem dX11_whereOf_52 : decode cX11_whereOf 52 = .ok (.iload 5, 2) := by decide +kernel
theorem dX11_whereOf_54 : decode cX11_whereOf 54 = .ok (.iaload, 1) := by decide +kernel
theorem dX11_whereOf_55 : decode cX11_whereOf 55 = .ok (.iload_n 3, 1) := by decide +kernel
theorem dX11_whereOf_56 : decode cX11_whereOf 56 = .ok (.if_icmp .gt 43, 3) := by decide +kernel
theorem dX11_whereOf_59 : decode cX11_whereOf 59 = .ok (.aload_n 0, 1) := by decide +kernel
theorem dX11_whereOf_60 : decode cX11_whereOf 60 = .ok (.getfield 46, 3) := by decide +kernel
theorem dX11_whereOf_63 : decode cX11_whereOf 63 = .ok (.iload 5, 2) := by decide +kernel
theorem dX11_whereOf_65 : decode cX11_whereOf 65 = .ok (.iaload, 1) := by decide +kernel
theorem dX11_whereOf_66 : decode cX11_whereOf 66 = .ok (.iload_n 2, 1) := by decide +kernel
theorem dX11_whereOf_67 : decode cX11_whereOf 67 = .ok (.if_icmp .le 6, 3) := by decide +kernel
theorem dX11_whereOf_70 : decode cX11_whereOf 70 = .ok (.goto 29, 3) := by decide +kernel
theorem dX11_whereOf_73 : decode cX11_whereOf 73 = .ok (.iload 4, 2) := by decide +kernel
theorem dX11_whereOf_75 : decode cX11_whereOf 75 = .ok (.ifCond .lt 20, 3) := by decide +kernel
theorem dX11_whereOf_78 : decode cX11_whereOf 78 = .ok (.aload_n 0, 1) := by decide +kernel
theorem dX11_whereOf_79 : decode cX11_whereOf 79 = .ok (.getfield 46, 3) := by decide +kernel
theorem dX11_whereOf_82 : decode cX11_whereOf 82 = .ok (.iload 5, 2) := by decide +kernel
theorem dX11_whereOf_84 : decode cX11_whereOf 84 = .ok (.iaload, 1) := by decide +kernel
theorem dX11_whereOf_85 : decode cX11_whereOf 85 = .ok (.aload_n 0, 1) := by decide +kernel
theorem dX11_whereOf_86 : decode cX11_whereOf 86 = .ok (.getfield 46, 3) := by decide +kernel
theorem dX11_whereOf_89 : decode cX11_whereOf 89 = .ok (.iload 4, 2) := by decide +kernel
theorem dX11_whereOf_91 : decode cX11_whereOf 91 = .ok (.iaload, 1) := by decide +kernel
theorem dX11_whereOf_92 : decode cX11_whereOf 92 = .ok (.if_icmp .lt 7, 3) := by decide +kernel
theorem dX11_whereOf_95 : decode cX11_whereOf 95 = .ok (.iload 5, 2) := by decide +kernel
theorem dX11_whereOf_97 : decode cX11_whereOf 97 = .ok (.istore 4, 2) := by decide +kernel
theorem dX11_whereOf_99 : decode cX11_whereOf 99 = .ok (.iinc 5 1, 3) := by decide +kernel
theorem dX11_whereOf_102 : decode cX11_whereOf 102 = .ok (.goto (-96), 3) := by decide +kernel
theorem dX11_whereOf_105 : decode cX11_whereOf 105 = .ok (.iload 4, 2) := by decide +kernel
theorem dX11_whereOf_107 : decode cX11_whereOf 107 = .ok (.ireturn, 1) := by decide +kernel
theorem dX11_isDead_0 : decode cX11_isDead 0 = .ok (.iconst 0, 1) := by decide +kernel
theorem dX11_isDead_1 : decode cX11_isDead 1 = .ok (.istore 4, 2) := by decide +kernel
theorem dX11_isDead_3 : decode cX11_isDead 3 = .ok (.iload 4, 2) := by decide +kernel
theorem dX11_isDead_5 : decode cX11_isDead 5 = .ok (.aload_n 0, 1) := by decide +kernel
theorem dX11_isDead_6 : decode cX11_isDead 6 = .ok (.getfield 179, 3) := by decide +kernel
theorem dX11_isDead_9 : decode cX11_isDead 9 = .ok (.if_icmp .ge 82, 3) := by decide +kernel
theorem dX11_isDead_12 : decode cX11_isDead 12 = .ok (.aload_n 0, 1) := by decide +kernel
theorem dX11_isDead_13 : decode cX11_isDead 13 = .ok (.getfield 40, 3) := by decide +kernel
theorem dX11_isDead_16 : decode cX11_isDead 16 = .ok (.iload 4, 2) := by decide +kernel
theorem dX11_isDead_18 : decode cX11_isDead 18 = .ok (.iaload, 1) := by decide +kernel
theorem dX11_isDead_19 : decode cX11_isDead 19 = .ok (.iconst 4, 1) := by decide +kernel
theorem dX11_isDead_20 : decode cX11_isDead 20 = .ok (.if_icmp .ne 14, 3) := by decide +kernel
theorem dX11_isDead_23 : decode cX11_isDead 23 = .ok (.aload_n 0, 1) := by decide +kernel
theorem dX11_isDead_24 : decode cX11_isDead 24 = .ok (.getfield 43, 3) := by decide +kernel
theorem dX11_isDead_27 : decode cX11_isDead 27 = .ok (.iload 4, 2) := by decide +kernel
theorem dX11_isDead_29 : decode cX11_isDead 29 = .ok (.iaload, 1) := by decide +kernel
theorem dX11_isDead_30 : decode cX11_isDead 30 = .ok (.iload_n 1, 1) := by decide +kernel
theorem dX11_isDead_31 : decode cX11_isDead 31 = .ok (.if_icmp .eq 30, 3) := by decide +kernel
theorem dX11_isDead_34 : decode cX11_isDead 34 = .ok (.aload_n 0, 1) := by decide +kernel
theorem dX11_isDead_35 : decode cX11_isDead 35 = .ok (.getfield 40, 3) := by decide +kernel
theorem dX11_isDead_38 : decode cX11_isDead 38 = .ok (.iload 4, 2) := by decide +kernel
theorem dX11_isDead_40 : decode cX11_isDead 40 = .ok (.iaload, 1) := by decide +kernel
theorem dX11_isDead_41 : decode cX11_isDead 41 = .ok (.iconst 2, 1) := by decide +kernel
theorem dX11_isDead_42 : decode cX11_isDead 42 = .ok (.if_icmp .ne 43, 3) := by decide +kernel
theorem dX11_isDead_45 : decode cX11_isDead 45 = .ok (.aload_n 0, 1) := by decide +kernel
theorem dX11_isDead_46 : decode cX11_isDead 46 = .ok (.getfield 43, 3) := by decide +kernel
theorem dX11_isDead_49 : decode cX11_isDead 49 = .ok (.iload 4, 2) := by decide +kernel
theorem dX11_isDead_51 : decode cX11_isDead 51 = .ok (.iaload, 1) := by decide +kernel
theorem dX11_isDead_52 : decode cX11_isDead 52 = .ok (.aload_n 0, 1) := by decide +kernel
theorem dX11_isDead_53 : decode cX11_isDead 53 = .ok (.getfield 73, 3) := by decide +kernel
theorem dX11_isDead_56 : decode cX11_isDead 56 = .ok (.iload_n 1, 1) := by decide +kernel
theorem dX11_isDead_57 : decode cX11_isDead 57 = .ok (.iaload, 1) := by decide +kernel
theorem dX11_isDead_58 : decode cX11_isDead 58 = .ok (.if_icmp .ne 27, 3) := by decide +kernel
theorem dX11_isDead_61 : decode cX11_isDead 61 = .ok (.aload_n 0, 1) := by decide +kernel
theorem dX11_isDead_62 : decode cX11_isDead 62 = .ok (.getfield 49, 3) := by decide +kernel
theorem dX11_isDead_65 : decode cX11_isDead 65 = .ok (.iload 4, 2) := by decide +kernel
theorem dX11_isDead_67 : decode cX11_isDead 67 = .ok (.iaload, 1) := by decide +kernel
theorem dX11_isDead_68 : decode cX11_isDead 68 = .ok (.iload_n 3, 1) := by decide +kernel
theorem dX11_isDead_69 : decode cX11_isDead 69 = .ok (.if_icmp .gt 16, 3) := by decide +kernel
theorem dX11_isDead_72 : decode cX11_isDead 72 = .ok (.aload_n 0, 1) := by decide +kernel
theorem dX11_isDead_73 : decode cX11_isDead 73 = .ok (.getfield 46, 3) := by decide +kernel
theorem dX11_isDead_76 : decode cX11_isDead 76 = .ok (.iload 4, 2) := by decide +kernel
theorem dX11_isDead_78 : decode cX11_isDead 78 = .ok (.iaload, 1) := by decide +kernel
theorem dX11_isDead_79 : decode cX11_isDead 79 = .ok (.iload_n 2, 1) := by decide +kernel
theorem dX11_isDead_80 : decode cX11_isDead 80 = .ok (.if_icmp .gt 5, 3) := by decide +kernel
theorem dX11_isDead_83 : decode cX11_isDead 83 = .ok (.iconst 1, 1) := by decide +kernel
theorem dX11_isDead_84 : decode cX11_isDead 84 = .ok (.ireturn, 1) := by decide +kernel
theorem dX11_isDead_85 : decode cX11_isDead 85 = .ok (.iinc 4 1, 3) := by decide +kernel
theorem dX11_isDead_88 : decode cX11_isDead 88 = .ok (.goto (-85), 3) := by decide +kernel
theorem dX11_isDead_91 : decode cX11_isDead 91 = .ok (.iconst 0, 1) := by decide +kernel
theorem dX11_isDead_92 : decode cX11_isDead 92 = .ok (.ireturn, 1) := by decide +kernel
theorem in_wsX11_sailedOn_X11 : ∀ w ∈ wsX110, w ∈ wsX11_sailedOn := fun w h => List.mem_cons_of_mem _ (List.mem_append_right _ h)
theorem in_wsX11_lastHeard_X11 : ∀ w ∈ wsX110, w ∈ wsX11_lastHeard := fun w h => List.mem_cons_of_mem _ (List.mem_append_right _ h)
theorem in_wsX11_whereOf_X11 : ∀ w ∈ wsX110, w ∈ wsX11_whereOf := fun w h => List.mem_cons_of_mem _ (List.mem_append_right _ h)
theorem in_wsX11_actOn_X11 : ∀ w ∈ wsX110, w ∈ wsX11_actOn := fun w h => List.mem_cons_of_mem _ (List.mem_append_right _ h)
theorem in_wsX11_isDead_X11 : ∀ w ∈ wsX110, w ∈ wsX11_isDead := fun w h => List.mem_cons_of_mem _ (List.mem_append_right _ h)