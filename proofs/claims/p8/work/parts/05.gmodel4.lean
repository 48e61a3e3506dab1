abbrev cX11_actOn : ByteArray := prog_13_method_36_code
def yX11_actOn : MethodName := ⟨RX11, "actOn", "(II)I"⟩
abbrev cX11_sailedOn : ByteArray := prog_13_method_40_code
def yX11_sailedOn : MethodName := ⟨RX11, "sailedOn", "(II)I"⟩
abbrev cX11_lastHeard : ByteArray := prog_13_method_41_code
def yX11_lastHeard : MethodName := ⟨RX11, "lastHeard", "(III)I"⟩
abbrev cX11_whereOf : ByteArray := prog_13_method_42_code
def yX11_whereOf : MethodName := ⟨RX11, "whereOf", "(III)I"⟩
abbrev cX11_isDead : ByteArray := prog_13_method_43_code
def yX11_isDead : MethodName := ⟨RX11, "isDead", "(III)Z"⟩
def wsX11_actOn : List Cond := .code yX11_actOn cX11_actOn 5 (some .int) :: ([.fieldLink RX11 256 "ShipOfficeModel" "acts" "I", .fieldLink RX11 61 "ShipOfficeModel" "purpose" "[I", .fieldLink RX11 64 "ShipOfficeModel" "from" "[I"] ++ wsX110)
theorem il_X11_actOn_1 : ∀ w ∈ ([.fieldLink RX11 256 "ShipOfficeModel" "acts" "I", .fieldLink RX11 61 "ShipOfficeModel" "purpose" "[I", .fieldLink RX11 64 "ShipOfficeModel" "from" "[I"] : List Cond), w ∈ wsX11_actOn := fun w h => (List.mem_cons_of_mem _ (List.mem_append_left _ h))
theorem iw_X11_actOn_1 : Cond.fieldLink RX11 256 "ShipOfficeModel" "acts" "I" ∈ wsX11_actOn := (mmI il_X11_actOn_1 0 rfl)
theorem iw_X11_actOn_2 : Cond.fieldLink RX11 61 "ShipOfficeModel" "purpose" "[I" ∈ wsX11_actOn := (mmI il_X11_actOn_1 1 rfl)
theorem iw_X11_actOn_3 : Cond.fieldLink RX11 64 "ShipOfficeModel" "from" "[I" ∈ wsX11_actOn := (mmI il_X11_actOn_1 2 rfl)
def wsX11_isDead : List Cond := .code yX11_isDead cX11_isDead 5 (some .boolean) :: ([.fieldLink RX11 179 "ShipOfficeModel" "happened" "I", .fieldLink RX11 40 "ShipOfficeModel" "what" "[I", .fieldLink RX11 43 "ShipOfficeModel" "whose" "[I", .fieldLink RX11 73 "ShipOfficeModel" "voyage" "[I", .fieldLink RX11 49 "ShipOfficeModel" "known" "[I", .fieldLink RX11 46 "ShipOfficeModel" "day" "[I"] ++ wsX110)
theorem il_X11_isDead_1 : ∀ w ∈ ([.fieldLink RX11 179 "ShipOfficeModel" "happened" "I", .fieldLink RX11 40 "ShipOfficeModel" "what" "[I", .fieldLink RX11 43 "ShipOfficeModel" "whose" "[I", .fieldLink RX11 73 "ShipOfficeModel" "voyage" "[I", .fieldLink RX11 49 "ShipOfficeModel" "known" "[I", .fieldLink RX11 46 "ShipOfficeModel" "day" "[I"] : List Cond), w ∈ wsX11_isDead := fun w h => (List.mem_cons_of_mem _ (List.mem_append_left _ h))
theorem iw_X11_isDead_1 : Cond.fieldLink RX11 179 "ShipOfficeModel" "happened" "I" ∈ wsX11_isDead := (mmI il_X11_isDead_1 0 rfl)
theorem iw_X11_isDead_2 : Cond.fieldLink RX11 40 "ShipOfficeModel" "what" "[I" ∈ wsX11_isDead := (mmI il_X11_isDead_1 1 rfl)
theorem iw_X11_isDead_3 : Cond.fieldLink RX11 43 "ShipOfficeModel" "whose" "[I" ∈ wsX11_isDead := (mmI il_X11_isDead_1 2 rfl)
theorem iw_X11_isDead_4 : Cond.fieldLink RX11 73 "ShipOfficeModel" "voyage" "[I" ∈ wsX11_isDead := (mmI il_X11_isDead_1 3 rfl)
theorem iw_X11_isDead_5 : Cond.fieldLink RX11 49 "ShipOfficeModel" "known" "[I" ∈ wsX11_isDead := (mmI il_X11_isDead_1 4 rfl)
theorem iw_X11_isDead_6 : Cond.fieldLink RX11 46 "ShipOfficeModel" "day" "[I" ∈ wsX11_isDead := (mmI il_X11_isDead_1 5 rfl)
def wsX11_whereOf : List Cond := .code yX11_whereOf cX11_whereOf 6 (some .int) :: ([.fieldLink RX11 179 "ShipOfficeModel" "happened" "I", .fieldLink RX11 40 "ShipOfficeModel" "what" "[I", .fieldLink RX11 43 "ShipOfficeModel" "whose" "[I", .fieldLink RX11 49 "ShipOfficeModel" "known" "[I", .fieldLink RX11 46 "ShipOfficeModel" "day" "[I"] ++ wsX110)
theorem il_X11_whereOf_1 : ∀ w ∈ ([.fieldLink RX11 179 "ShipOfficeModel" "happened" "I", .fieldLink RX11 40 "ShipOfficeModel" "what" "[I", .fieldLink RX11 43 "ShipOfficeModel" "whose" "[I", .fieldLink RX11 49 "ShipOfficeModel" "known" "[I", .fieldLink RX11 46 "ShipOfficeModel" "day" "[I"] : List Cond), w ∈ wsX11_whereOf := fun w h => (List.mem_cons_of_mem _ (List.mem_append_left _ h))
theorem iw_X11_whereOf_1 : Cond.fieldLink RX11 179 "ShipOfficeModel" "happened" "I" ∈ wsX11_whereOf := (mmI il_X11_whereOf_1 0 rfl)
theorem iw_X11_whereOf_2 : Cond.fieldLink RX11 40 "ShipOfficeModel" "what" "[I" ∈ wsX11_whereOf := (mmI il_X11_whereOf_1 1 rfl)
theorem iw_X11_whereOf_3 : Cond.fieldLink RX11 43 "ShipOfficeModel" "whose" "[I" ∈ wsX11_whereOf := (mmI il_X11_whereOf_1 2 rfl)
theorem iw_X11_whereOf_4 : Cond.fieldLink RX11 49 "ShipOfficeModel" "known" "[I" ∈ wsX11_whereOf := (mmI il_X11_whereOf_1 3 rfl)
theorem iw_X11_whereOf_5 : Cond.fieldLink RX11 46 "ShipOfficeModel" "day" "[I" ∈ wsX11_whereOf := (mmI il_X11_whereOf_1 4 rfl)
def wsX11_sailedOn : List Cond := .code yX11_sailedOn cX11_sailedOn 4 (some .int) :: ([.fieldLink RX11 179 "ShipOfficeModel" "happened" "I", .fieldLink RX11 40 "ShipOfficeModel" "what" "[I", .fieldLink RX11 43 "ShipOfficeModel" "whose" "[I", .fieldLink RX11 49 "ShipOfficeModel" "known" "[I", .fieldLink RX11 46 "ShipOfficeModel" "day" "[I"] ++ wsX110)
theorem il_X11_sailedOn_1 : ∀ w ∈ ([.fieldLink RX11 179 "ShipOfficeModel" "happened" "I", .fieldLink RX11 40 "ShipOfficeModel" "what" "[I", .fieldLink RX11 43 "ShipOfficeModel" "whose" "[I", .fieldLink RX11 49 "ShipOfficeModel" "known" "[I", .fieldLink RX11 46 "ShipOfficeModel" "day" "[I"] : List Cond), w ∈ wsX11_sailedOn := fun w h => (List.mem_cons_of_mem _ (List.mem_append_left _ h))
theorem iw_X11_sailedOn_1 : Cond.fieldLink RX11 179 "ShipOfficeModel" "happened" "I" ∈ wsX11_sailedOn := (mmI il_X11_sailedOn_1 0 rfl)
theorem iw_X11_sailedOn_2 : Cond.fieldLink RX11 40 "ShipOfficeModel" "what" "[I" ∈ wsX11_sailedOn := (mmI il_X11_sailedOn_1 1 rfl)
theorem iw_X11_sailedOn_3 : Cond.fieldLink RX11 43 "ShipOfficeModel" "whose" "[I" ∈ wsX11_sailedOn := (mmI il_X11_sailedOn_1 2 rfl)
theorem iw_X11_sailedOn_4 : Cond.fieldLink RX11 49 "ShipOfficeModel" "known" "[I" ∈ wsX11_sailedOn := (mmI il_X11_sailedOn_1 3 rfl)
theorem iw_X11_sailedOn_5 : Cond.fieldLink RX11 46 "ShipOfficeModel" "day" "[I" ∈ wsX11_sailedOn := (mmI il_X11_sailedOn_1 4 rfl)
def wsX11_lastHeard : List Cond := .code yX11_lastHeard cX11_lastHeard 6 (some .int) :: ([.fieldLink RX11 179 "ShipOfficeModel" "happened" "I", .fieldLink RX11 40 "ShipOfficeModel" "what" "[I", .fieldLink RX11 43 "ShipOfficeModel" "whose" "[I", .fieldLink RX11 49 "ShipOfficeModel" "known" "[I", .fieldLink RX11 46 "ShipOfficeModel" "day" "[I"] ++ wsX110)
theorem il_X11_lastHeard_1 : ∀ w ∈ ([.fieldLink RX11 179 "ShipOfficeModel" "happened" "I", .fieldLink RX11 40 "ShipOfficeModel" "what" "[I", .fieldLink RX11 43 "ShipOfficeModel" "whose" "[I", .fieldLink RX11 49 "ShipOfficeModel" "known" "[I", .fieldLink RX11 46 "ShipOfficeModel" "day" "[I"] : List Cond), w ∈ wsX11_lastHeard := fun w h => (List.mem_cons_of_mem _ (List.mem_append_left _ h))
theorem iw_X11_lastHeard_1 : Cond.fieldLink RX11 179 "ShipOfficeModel" "happened" "I" ∈ wsX11_lastHeard := (mmI il_X11_lastHeard_1 0 rfl)
theorem iw_X11_lastHeard_2 : Cond.fieldLink RX11 40 "ShipOfficeModel" "what" "[I" ∈ wsX11_lastHeard := (mmI il_X11_lastHeard_1 1 rfl)
theorem iw_X11_lastHeard_3 : Cond.fieldLink RX11 43 "ShipOfficeModel" "whose" "[I" ∈ wsX11_lastHeard := (mmI il_X11_lastHeard_1 2 rfl)
theorem iw_X11_lastHeard_4 : Cond.fieldLink RX11 49 "ShipOfficeModel" "known" "[I" ∈ wsX11_lastHeard := (mmI il_X11_lastHeard_1 3 rfl)
theorem iw_X11_lastHeard_5 : Cond.fieldLink RX11 46 "ShipOfficeModel" "day" "[I" ∈ wsX11_lastHeard := (mmI il_X11_lastHeard_1 4 rfl)
theorem dX11_actOn_0 : decode cX11_actOn 0 = .ok (.iconst (-1), 1) := by decide +kernel
theorem dX11_actOn_1 : decode cX11_actOn 1 = .ok (.istore_n 3, 1) := by decide +kernel
theorem dX11_actOn_2 : decode cX11_actOn 2 = .ok (.iconst 0, 1) := by decide +kernel
theorem dX11_actOn_3 : decode cX11_actOn 3 = .ok (.istore 4, 2) := by decide +kernel
theorem dX11_actOn_5 : decode cX11_actOn 5 = .ok (.iload 4, 2) := by decide +kernel
theorem dX11_actOn_7 : decode cX11_actOn 7 = .ok (.aload_n 0, 1) := by decide +kernel
theorem dX11_actOn_8 : decode cX11_actOn 8 = .ok (.getfield 256, 3) := by decide +kernel
theorem dX11_actOn_11 : decode cX11_actOn 11 = .ok (.if_icmp .ge 54, 3) := by decide +kernel
theorem dX11_actOn_14 : decode cX11_actOn 14 = .ok (.aload_n 0, 1) := by decide +kernel
theorem dX11_actOn_15 : decode cX11_actOn 15 = .ok (.getfield 61, 3) := by decide +kernel
theorem dX11_actOn_18 : decode cX11_actOn 18 = .ok (.iload 4, 2) := by decide +kernel
theorem dX11_actOn_20 : decode cX11_actOn 20 = .ok (.iaload, 1) := by decide +kernel
theorem dX11_actOn_21 : decode cX11_actOn 21 = .ok (.iload_n 1, 1) := by decide +kernel
theorem dX11_actOn_22 : decode cX11_actOn 22 = .ok (.if_icmp .ne 37, 3) := by decide +kernel
theorem dX11_actOn_25 : decode cX11_actOn 25 = .ok (.aload_n 0, 1) := by decide +kernel
theorem dX11_actOn_26 : decode cX11_actOn 26 = .ok (.getfield 64, 3) := by decide +kernel
theorem dX11_actOn_29 : decode cX11_actOn 29 = .ok (.iload 4, 2) := by decide +kernel
theorem dX11_actOn_31 : decode cX11_actOn 31 = .ok (.iaload, 1) := by decide +kernel
theorem dX11_actOn_32 : decode cX11_actOn 32 = .ok (.iload_n 2, 1) := by decide +kernel
theorem dX11_actOn_33 : decode cX11_actOn 33 = .ok (.if_icmp .gt 26, 3) := by decide +kernel
theorem dX11_actOn_36 : decode cX11_actOn 36 = .ok (.iload_n 3, 1) := by decide +kernel
theorem dX11_actOn_37 : decode cX11_actOn 37 = .ok (.ifCond .lt 19, 3) := by decide +kernel
theorem dX11_actOn_40 : decode cX11_actOn 40 = .ok (.aload_n 0, 1) := by decide +kernel
theorem dX11_actOn_41 : decode cX11_actOn 41 = .ok (.getfield 64, 3) := by decide +kernel
theorem dX11_actOn_44 : decode cX11_actOn 44 = .ok (.iload 4, 2) := by decide +kernel
theorem dX11_actOn_46 : decode cX11_actOn 46 = .ok (.iaload, 1) := by decide +kernel
theorem dX11_actOn_47 : decode cX11_actOn 47 = .ok (.aload_n 0, 1) := by decide +kernel
theorem dX11_actOn_48 : decode cX11_actOn 48 = .ok (.getfield 64, 3) := by decide +kernel
theorem dX11_actOn_51 : decode cX11_actOn 51 = .ok (.iload_n 3, 1) := by decide +kernel
theorem dX11_actOn_52 : decode cX11_actOn 52 = .ok (.iaload, 1) := by decide +kernel
theorem dX11_actOn_53 : decode cX11_actOn 53 = .ok (.if_icmp .lt 6, 3) := by decide +kernel
theorem dX11_actOn_56 : decode cX11_actOn 56 = .ok (.iload 4, 2) := by decide +kernel
theorem dX11_actOn_58 : decode cX11_actOn 58 = .ok (.istore_n 3, 1) := by decide +kernel
theorem dX11_actOn_59 : decode cX11_actOn 59 = .ok (.iinc 4 1, 3) := by decide +kernel
theorem dX11_actOn_62 : decode cX11_actOn 62 = .ok (.goto (-57), 3) := by decide +kernel
theorem dX11_actOn_65 : decode cX11_actOn 65 = .ok (.iload_n 3, 1) := by decide +kernel
theorem dX11_actOn_66 : decode cX11_actOn 66 = .ok (.ireturn, 1) := by decide +kernel
theorem dX11_sailedOn_0 : decode cX11_sailedOn 0 = .ok (.iconst 0, 1) := by decide +kernel
theorem dX11_sailedOn_1 : decode cX11_sailedOn 1 = .ok (.istore_n 3, 1) := by decide +kernel
theorem dX11_sailedOn_2 : decode cX11_sailedOn 2 = .ok (.iload_n 3, 1) := by decide +kernel
theorem dX11_sailedOn_3 : decode cX11_sailedOn 3 = .ok (.aload_n 0, 1) := by decide +kernel
theorem dX11_sailedOn_4 : decode cX11_sailedOn 4 = .ok (.getfield 179, 3) := by decide +kernel
theorem dX11_sailedOn_7 : decode cX11_sailedOn 7 = .ok (.if_icmp .ge 45, 3) := by decide +kernel
theorem dX11_sailedOn_10 : decode cX11_sailedOn 10 = .ok (.aload_n 0, 1) := by decide +kernel
theorem dX11_sailedOn_11 : decode cX11_sailedOn 11 = .ok (.getfield 40, 3) := by decide +kernel
theorem dX11_sailedOn_14 : decode cX11_sailedOn 14 = .ok (.iload_n 3, 1) := by decide +kernel
theorem dX11_sailedOn_15 : decode cX11_sailedOn 15 = .ok (.iaload, 1) := by decide +kernel
theorem dX11_sailedOn_16 : decode cX11_sailedOn 16 = .ok (.ifCond .ne 30, 3) := by decide +kernel
theorem dX11_sailedOn_19 : decode cX11_sailedOn 19 = .ok (.aload_n 0, 1) := by decide +kernel
theorem dX11_sailedOn_20 : decode cX11_sailedOn 20 = .ok (.getfield 43, 3) := by decide +kernel
theorem dX11_sailedOn_23 : decode cX11_sailedOn 23 = .ok (.iload_n 3, 1) := by decide +kernel
theorem dX11_sailedOn_24 : decode cX11_sailedOn 24 = .ok (.iaload, 1) := by decide +kernel
theorem dX11_sailedOn_25 : decode cX11_sailedOn 25 = .ok (.iload_n 1, 1) := by decide +kernel
theorem dX11_sailedOn_26 : decode cX11_sailedOn 26 = .ok (.if_icmp .ne 20, 3) := by decide +kernel
theorem dX11_sailedOn_29 : decode cX11_sailedOn 29 = .ok (.aload_n 0, 1) := by decide +kernel
theorem dX11_sailedOn_30 : decode cX11_sailedOn 30 = .ok (.getfield 49, 3) := by decide +kernel
theorem dX11_sailedOn_33 : decode cX11_sailedOn 33 = .ok (.iload_n 3, 1) := by decide +kernel
theorem dX11_sailedOn_34 : decode cX11_sailedOn 34 = .ok (.iaload, 1) := by decide +kernel
theorem dX11_sailedOn_35 : decode cX11_sailedOn 35 = .ok (.iload_n 2, 1) := by decide +kernel
theorem dX11_sailedOn_36 : decode cX11_sailedOn 36 = .ok (.if_icmp .gt 10, 3) := by decide +kernel
theorem dX11_sailedOn_39 : decode cX11_sailedOn 39 = .ok (.aload_n 0, 1) := by decide +kernel
theorem dX11_sailedOn_40 : decode cX11_sailedOn 40 = .ok (.getfield 46, 3) := by decide +kernel
theorem dX11_sailedOn_43 : decode cX11_sailedOn 43 = .ok (.iload_n 3, 1) := by decide +kernel
theorem dX11_sailedOn_44 : decode cX11_sailedOn 44 = .ok (.iaload, 1) := by decide +kernel
theorem dX11_sailedOn_45 : decode cX11_sailedOn 45 = .ok (.ireturn, 1) := by decide +kernel
theorem dX11_sailedOn_46 : decode cX11_sailedOn 46 = .ok (.iinc 3 1, 3) := by decide +kernel
theorem dX11_sailedOn_49 : decode cX11_sailedOn 49 = .ok (.goto (-47), 3) := by decide +kernel
theorem dX11_sailedOn_52 : decode cX11_sailedOn 52 = .ok (.iconst (-1), 1) := by decide +kernel
theorem dX11_sailedOn_53 : decode cX11_sailedOn 53 = .ok (.ireturn, 1) := by decide +kernel
theorem dX11_lastHeard_0 : decode cX11_lastHeard 0 = .ok (.iconst (-1), 1) := by decide +kernel
theorem dX11_lastHeard_1 : decode cX11_lastHeard 1 = .ok (.istore 4, 2) := by decide +kernel
theorem dX11_lastHeard_3 : decode cX11_lastHeard 3 = .ok (.iconst 0, 1) := by decide +kernel
theorem dX11_lastHeard_4 : decode cX11_lastHeard 4 = .ok (.istore 5, 2) := by decide +kernel
theorem dX11_lastHeard_6 : decode cX11_lastHeard 6 = .ok (.iload 5, 2) := by decide +kernel
theorem dX11_lastHeard_8 : decode cX11_lastHeard 8 = .ok (.aload_n 0, 1) := by decide +kernel
theorem dX11_lastHeard_9 : decode cX11_lastHeard 9 = .ok (.getfield 179, 3) := by decide +kernel
theorem dX11_lastHeard_12 : decode cX11_lastHeard 12 = .ok (.if_icmp .ge 84, 3) := by decide +kernel
theorem dX11_lastHeard_15 : decode cX11_lastHeard 15 = .ok (.aload_n 0, 1) := by decide +kernel
theorem dX11_lastHeard_16 : decode cX11_lastHeard 16 = .ok (.getfield 40, 3) := by decide +kernel
theorem dX11_lastHeard_19 : decode cX11_lastHeard 19 = .ok (.iload 5, 2) := by decide +kernel
theorem dX11_lastHeard_21 : decode cX11_lastHeard 21 = .ok (.iaload, 1) := by decide +kernel
theorem dX11_lastHeard_22 : decode cX11_lastHeard 22 = .ok (.iconst 1, 1) := by decide +kernel
theorem dX11_lastHeard_23 : decode cX11_lastHeard 23 = .ok (.if_icmp .eq 13, 3) := by decide +kernel
theorem dX11_lastHeard_26 : decode cX11_lastHeard 26 = .ok (.aload_n 0, 1) := by decide +kernel
theorem dX11_lastHeard_27 : decode cX11_lastHeard 27 = .ok (.getfield 40, 3) := by decide +kernel
theorem dX11_lastHeard_30 : decode cX11_lastHeard 30 = .ok (.iload 5, 2) := by decide +kernel
theorem dX11_lastHeard_32 : decode cX11_lastHeard 32 = .ok (.iaload, 1) := by decide +kernel
theorem dX11_lastHeard_33 : decode cX11_lastHeard 33 = .ok (.ifCond .ne 57, 3) := by decide +kernel
theorem dX11_lastHeard_36 : decode cX11_lastHeard 36 = .ok (.aload_n 0, 1) := by decide +kernel
theorem dX11_lastHeard_37 : decode cX11_lastHeard 37 = .ok (.getfield 43, 3) := by decide +kernel
theorem dX11_lastHeard_40 : decode cX11_lastHeard 40 = .ok (.iload 5, 2) := by decide +kernel
theorem dX11_lastHeard_42 : decode cX11_lastHeard 42 = .ok (.iaload, 1) := by decide +kernel
theorem dX11_lastHeard_43 : decode cX11_lastHeard 43 = .ok (.iload_n 1, 1) := by decide +kernel
theorem dX11_lastHeard_44 : decode cX11_lastHeard 44 = .ok (.if_icmp .ne 46, 3) := by decide +kernel
theorem dX11_lastHeard_47 : decode cX11_lastHeard 47 = .ok (.aload_n 0, 1) := by decide +kernel
theorem dX11_lastHeard_48 : decode cX11_lastHeard 48 = .ok (.getfield 49, 3) := by decide +kernel
theorem dX11_lastHeard_51 : decode cX11_lastHeard 51 = .ok (.iload 5, 2) := by decide +kernel
theorem dX11_lastHeard_53 : decode cX11_lastHeard 53 = .ok (.iaload, 1) := by decide +kernel
theorem dX11_lastHeard_54 : decode cX11_lastHeard 54 = .ok (.iload_n 3, 1) := by decide +kernel
theorem dX11_lastHeard_55 : decode cX11_lastHeard 55 = .ok (.if_icmp .gt 35, 3) := by decide +kernel
theorem dX11_lastHeard_58 : decode cX11_lastHeard 58 = .ok (.aload_n 0, 1) := by decide +kernel
theorem dX11_lastHeard_59 : decode cX11_lastHeard 59 = .ok (.getfield 46, 3) := by decide +kernel
theorem dX11_lastHeard_62 : decode cX11_lastHeard 62 = .ok (.iload 5, 2) := by decide +kernel
theorem dX11_lastHeard_64 : decode cX11_lastHeard 64 = .ok (.iaload, 1) := by decide +kernel
theorem dX11_lastHeard_65 : decode cX11_lastHeard 65 = .ok (.iload_n 2, 1) := by decide +kernel
theorem dX11_lastHeard_66 : decode cX11_lastHeard 66 = .ok (.if_icmp .gt 24, 3) := by decide +kernel
theorem dX11_lastHeard_69 : decode cX11_lastHeard 69 = .ok (.aload_n 0, 1) := by decide +kernel
theorem dX11_lastHeard_70 : decode cX11_lastHeard 70 = .ok (.getfield 46, 3) := by decide +kernel
theorem dX11_lastHeard_73 : decode cX11_lastHeard 73 = .ok (.iload 5, 2) := by decide +kernel
theorem dX11_lastHeard_75 : decode cX11_lastHeard 75 = .ok (.iaload, 1) := by decide +kernel
theorem dX11_lastHeard_76 : decode cX11_lastHeard 76 = .ok (.iload 4, 2) := by decide +kernel
theorem dX11_lastHeard_78 : decode cX11_lastHeard 78 = .ok (.if_icmp .le 12, 3) := by decide +kernel
theorem dX11_lastHeard_81 : decode cX11_lastHeard 81 = .ok (.aload_n 0, 1) := by decide +kernel
theorem dX11_lastHeard_82 : decode cX11_lastHeard 82 = .ok (.getfield 46, 3) := by decide +kernel
theorem dX11_lastHeard_85 : decode cX11_lastHeard 85 = .ok (.iload 5, 2) := by decide +kernel
theorem dX11_lastHeard_87 : decode cX11_lastHeard 87 = .ok (.iaload, 1) := by decide +kernel
theorem dX11_lastHeard_88 : decode cX11_lastHeard 88 = .ok (.istore 4, 2) := by decide +kernel
theorem dX11_lastHeard_90 : decode cX11_lastHeard 90 = .ok (.iinc 5 1, 3) := by decide +kernel
theorem dX11_lastHeard_93 : decode cX11_lastHeard 93 = .ok (.goto (-87), 3) := by decide +kernel
theorem dX11_lastHeard_96 : decode cX11_lastHeard 96 = .ok (.iload 4, 2) := by decide +kernel
theorem dX11_lastHeard_98 : decode cX11_lastHeard 98 = .ok (.ireturn, 1) := by decide +kernel
theorem dX11_whereOf_0 : decode cX11_whereOf 0 = .ok (.iconst (-1), 1) := by decide +kernel
theorem dX11_whereOf_1 : decode cX11_whereOf 1 = .ok (.istore 4, 2) := by decide +kernel
theorem dX11_whereOf_3 : decode cX11_whereOf 3 = .ok (.iconst 0, 1) := by decide +kernel
theorem dX11_whereOf_4 : decode cX11_whereOf 4 = .ok (.istore 5, 2) := by decide +kernel
theorem dX11_whereOf_6 : decode cX11_whereOf 6 = .ok (.iload 5, 2) := by decide +kernel
theorem dX11_whereOf_8 : decode cX11_whereOf 8 = .ok (.aload_n 0, 1) := by decide +kernel
theorem dX11_whereOf_9 : decode cX11_whereOf 9 = .ok (.getfield 179, 3) := by decide +kernel
theorem dX11_whereOf_12 : decode cX11_whereOf 12 = .ok (.if_icmp .ge 93, 3) := by decide +kernel
theorem dX11_whereOf_15 : decode cX11_whereOf 15 = .ok (.aload_n 0, 1) := by decide +kernel
theorem dX11_whereOf_16 : decode cX11_whereOf 16 = .ok (.getfield 40, 3) := by decide +kernel
theorem dX11_whereOf_19 : decode cX11_whereOf 19 = .ok (.iload 5, 2) := by decide +kernel
theorem dX11_whereOf_21 : decode cX11_whereOf 21 = .ok (.iaload, 1) := by decide +kernel
theorem dX11_whereOf_22 : decode cX11_whereOf 22 = .ok (.iconst 3, 1) := by decide +kernel
theorem dX11_whereOf_23 : decode cX11_whereOf 23 = .ok (.if_icmp .eq 14, 3) := by decide +kernel
theorem dX11_whereOf_26 : decode cX11_whereOf 26 = .ok (.aload_n 0, 1) := by decide +kernel
theorem dX11_whereOf_27 : decode cX11_whereOf 27 = .ok (.getfield 40, 3) := by decide +kernel
theorem dX11_whereOf_30 : decode cX11_whereOf 30 = .ok (.iload 5, 2) := by decide +kernel
theorem dX11_whereOf_32 : decode cX11_whereOf 32 = .ok (.iaload, 1) := by decide +kernel
theorem dX11_whereOf_33 : decode cX11_whereOf 33 = .ok (.iconst 5, 1) := by decide +kernel
theorem dX11_whereOf_34 : decode cX11_whereOf 34 = .ok (.if_icmp .ne 65, 3) := by decide +kernel
theorem dX11_whereOf_37 : decode cX11_whereOf 37 = .ok (.aload_n 0, 1) := by decide +kernel
theorem dX11_whereOf_38 : decode cX11_whereOf 38 = .ok (.getfield 43, 3) := by decide +kernel
theorem dX11_whereOf_41 : decode cX11_whereOf 41 = .ok (.iload 5, 2) := by decide +kernel
theorem dX11_whereOf_43 : decode cX11_whereOf 43 = .ok (.iaload, 1) := by decide +kernel
theorem dX11_whereOf_44 : decode cX11_whereOf 44 = .ok (.iload_n 1, 1) := by decide +kernel
theorem dX11_whereOf_45 : decode cX11_whereOf 45 = .ok (.if_icmp .ne 54, 3) := by decide +kernel
theorem dX11_whereOf_48 : decode cX11_whereOf 48 = .ok (.aload_n 0, 1) := by decide +kernel
theorem dX11_whereOf_49 : decode cX11_whereOf 49 = .ok (.getfield 49, 3) := by decide +kernel
theorem dX11_whereOf_52 : decode cX11_whereOf 52 = .ok (.iload 5, 2) := by decide +kernel
theorem dX11_whereOf_54 : decode cX11_whereOf 54 = .ok (.iaload, 1) := by decide +kernel
theorem dX11_whereOf_55 : decode cX11_whereOf 55 = .ok (.iload_n 3, 1) := by decide +kernel
theorem dX11_whereOf_56 : decode cX11_whereOf 56 = .ok (.if_icmp .gt 43, 3) := by decide +kernel
theorem dX11_whereOf_59 : decode cX11_whereOf 59 = .ok (.aload_n 0, 1) := by decide +kernel
theorem dX11_whereOf_60 : decode cX11_whereOf 60 = .ok (.getfield 46, 3) := by decide +kernel
theorem dX11_whereOf_63 : decode cX11_whereOf 63 = .ok (.iload 5, 2) := by decide +kernel
theorem dX11_whereOf_65 : decode cX11_whereOf 65 = .ok (.iaload, 1) := by decide +kernel
theorem dX11_whereOf_66 : decode cX11_whereOf 66 = .ok (.iload_n 2, 1) := by decide +kernel
theorem dX11_whereOf_67 : decode cX11_whereOf 67 = .ok (.if_icmp .le 6, 3) := by decide +kernel
theorem dX11_whereOf_70 : decode cX11_whereOf 70 = .ok (.goto 29, 3) := by decide +kernel
theorem dX11_whereOf_73 : decode cX11_whereOf 73 = .ok (.iload 4, 2) := by decide +kernel
theorem dX11_whereOf_75 : decode cX11_whereOf 75 = .ok (.ifCond .lt 20, 3) := by decide +kernel
theorem dX11_whereOf_78 : decode cX11_whereOf 78 = .ok (.aload_n 0, 1) := by decide +kernel
theorem dX11_whereOf_79 : decode cX11_whereOf 79 = .ok (.getfield 46, 3) := by decide +kernel
theorem dX11_whereOf_82 : decode cX11_whereOf 82 = .ok (.iload 5, 2) := by decide +kernel
theorem dX11_whereOf_84 : decode cX11_whereOf 84 = .ok (.iaload, 1) := by decide +kernel
theorem dX11_whereOf_85 : decode cX11_whereOf 85 = .ok (.aload_n 0, 1) := by decide +kernel
theorem dX11_whereOf_86 : decode cX11_whereOf 86 = .ok (.getfield 46, 3) := by decide +kernel
theorem dX11_whereOf_89 : decode cX11_whereOf 89 = .ok (.iload 4, 2) := by decide +kernel
theorem dX11_whereOf_91 : decode cX11_whereOf 91 = .ok (.iaload, 1) := by decide +kernel
theorem dX11_whereOf_92 : decode cX11_whereOf 92 = .ok (.if_icmp .lt 7, 3) := by decide +kernel
theorem dX11_whereOf_95 : decode cX11_whereOf 95 = .ok (.iload 5, 2) := by decide +kernel
theorem dX11_whereOf_97 : decode cX11_whereOf 97 = .ok (.istore 4, 2) := by decide +kernel
theorem dX11_whereOf_99 : decode cX11_whereOf 99 = .ok (.iinc 5 1, 3) := by decide +kernel
theorem dX11_whereOf_102 : decode cX11_whereOf 102 = .ok (.goto (-96), 3) := by decide +kernel
theorem dX11_whereOf_105 : decode cX11_whereOf 105 = .ok (.iload 4, 2) := by decide +kernel
theorem dX11_whereOf_107 : decode cX11_whereOf 107 = .ok (.ireturn, 1) := by decide +kernel
theorem dX11_isDead_0 : decode cX11_isDead 0 = .ok (.iconst 0, 1) := by decide +kernel
theorem dX11_isDead_1 : decode cX11_isDead 1 = .ok (.istore 4, 2) := by decide +kernel
theorem dX11_isDead_3 : decode cX11_isDead 3 = .ok (.iload 4, 2) := by decide +kernel
theorem dX11_isDead_5 : decode cX11_isDead 5 = .ok (.aload_n 0, 1) := by decide +kernel
theorem dX11_isDead_6 : decode cX11_isDead 6 = .ok (.getfield 179, 3) := by decide +kernel
theorem dX11_isDead_9 : decode cX11_isDead 9 = .ok (.if_icmp .ge 82, 3) := by decide +kernel
theorem dX11_isDead_12 : decode cX11_isDead 12 = .ok (.aload_n 0, 1) := by decide +kernel
theorem dX11_isDead_13 : decode cX11_isDead 13 = .ok (.getfield 40, 3) := by decide +kernel
theorem dX11_isDead_16 : decode cX11_isDead 16 = .ok (.iload 4, 2) := by decide +kernel
theorem dX11_isDead_18 : decode cX11_isDead 18 = .ok (.iaload, 1) := by decide +kernel
theorem dX11_isDead_19 : decode cX11_isDead 19 = .ok (.iconst 4, 1) := by decide +kernel
theorem dX11_isDead_20 : decode cX11_isDead 20 = .ok (.if_icmp .ne 14, 3) := by decide +kernel
theorem dX11_isDead_23 : decode cX11_isDead 23 = .ok (.aload_n 0, 1) := by decide +kernel
theorem dX11_isDead_24 : decode cX11_isDead 24 = .ok (.getfield 43, 3) := by decide +kernel
theorem dX11_isDead_27 : decode cX11_isDead 27 = .ok (.iload 4, 2) := by decide +kernel
theorem dX11_isDead_29 : decode cX11_isDead 29 = .ok (.iaload, 1) := by decide +kernel
theorem dX11_isDead_30 : decode cX11_isDead 30 = .ok (.iload_n 1, 1) := by decide +kernel
theorem dX11_isDead_31 : decode cX11_isDead 31 = .ok (.if_icmp .eq 30, 3) := by decide +kernel
theorem dX11_isDead_34 : decode cX11_isDead 34 = .ok (.aload_n 0, 1) := by decide +kernel
theorem dX11_isDead_35 : decode cX11_isDead 35 = .ok (.getfield 40, 3) := by decide +kernel
theorem dX11_isDead_38 : decode cX11_isDead 38 = .ok (.iload 4, 2) := by decide +kernel
theorem dX11_isDead_40 : decode cX11_isDead 40 = .ok (.iaload, 1) := by decide +kernel
theorem dX11_isDead_41 : decode cX11_isDead 41 = .ok (.iconst 2, 1) := by decide +kernel
theorem dX11_isDead_42 : decode cX11_isDead 42 = .ok (.if_icmp .ne 43, 3) := by decide +kernel
theorem dX11_isDead_45 : decode cX11_isDead 45 = .ok (.aload_n 0, 1) := by decide +kernel
theorem dX11_isDead_46 : decode cX11_isDead 46 = .ok (.getfield 43, 3) := by decide +kernel
theorem dX11_isDead_49 : decode cX11_isDead 49 = .ok (.iload 4, 2) := by decide +kernel
theorem dX11_isDead_51 : decode cX11_isDead 51 = .ok (.iaload, 1) := by decide +kernel
theorem dX11_isDead_52 : decode cX11_isDead 52 = .ok (.aload_n 0, 1) := by decide +kernel
theorem dX11_isDead_53 : decode cX11_isDead 53 = .ok (.getfield 73, 3) := by decide +kernel
theorem dX11_isDead_56 : decode cX11_isDead 56 = .ok (.iload_n 1, 1) := by decide +kernel
theorem dX11_isDead_57 : decode cX11_isDead 57 = .ok (.iaload, 1) := by decide +kernel
theorem dX11_isDead_58 : decode cX11_isDead 58 = .ok (.if_icmp .ne 27, 3) := by decide +kernel
theorem dX11_isDead_61 : decode cX11_isDead 61 = .ok (.aload_n 0, 1) := by decide +kernel
theorem dX11_isDead_62 : decode cX11_isDead 62 = .ok (.getfield 49, 3) := by decide +kernel
theorem dX11_isDead_65 : decode cX11_isDead 65 = .ok (.iload 4, 2) := by decide +kernel
theorem dX11_isDead_67 : decode cX11_isDead 67 = .ok (.iaload, 1) := by decide +kernel
theorem dX11_isDead_68 : decode cX11_isDead 68 = .ok (.iload_n 3, 1) := by decide +kernel
theorem dX11_isDead_69 : decode cX11_isDead 69 = .ok (.if_icmp .gt 16, 3) := by decide +kernel
theorem dX11_isDead_72 : decode cX11_isDead 72 = .ok (.aload_n 0, 1) := by decide +kernel
theorem dX11_isDead_73 : decode cX11_isDead 73 = .ok (.getfield 46, 3) := by decide +kernel
theorem dX11_isDead_76 : decode cX11_isDead 76 = .ok (.iload 4, 2) := by decide +kernel
theorem dX11_isDead_78 : decode cX11_isDead 78 = .ok (.iaload, 1) := by decide +kernel
theorem dX11_isDead_79 : decode cX11_isDead 79 = .ok (.iload_n 2, 1) := by decide +kernel
theorem dX11_isDead_80 : decode cX11_isDead 80 = .ok (.if_icmp .gt 5, 3) := by decide +kernel
theorem dX11_isDead_83 : decode cX11_isDead 83 = .ok (.iconst 1, 1) := by decide +kernel
theorem dX11_isDead_84 : decode cX11_isDead 84 = .ok (.ireturn, 1) := by decide +kernel
theorem dX11_isDead_85 : decode cX11_isDead 85 = .ok (.iinc 4 1, 3) := by decide +kernel
theorem dX11_isDead_88 : decode cX11_isDead 88 = .ok (.goto (-85), 3) := by decide +kernel
theorem dX11_isDead_91 : decode cX11_isDead 91 = .ok (.iconst 0, 1) := by decide +kernel
theorem dX11_isDead_92 : decode cX11_isDead 92 = .ok (.ireturn, 1) := by decide +kernel
theorem in_wsX11_sailedOn_X11 : ∀ w ∈ wsX110, w ∈ wsX11_sailedOn := fun w h => List.mem_cons_of_mem _ (List.mem_append_right _ h)
theorem in_wsX11_lastHeard_X11 : ∀ w ∈ wsX110, w ∈ wsX11_lastHeard := fun w h => List.mem_cons_of_mem _ (List.mem_append_right _ h)
theorem in_wsX11_whereOf_X11 : ∀ w ∈ wsX110, w ∈ wsX11_whereOf := fun w h => List.mem_cons_of_mem _ (List.mem_append_right _ h)
theorem in_wsX11_actOn_X11 : ∀ w ∈ wsX110, w ∈ wsX11_actOn := fun w h => List.mem_cons_of_mem _ (List.mem_append_right _ h)
theorem in_wsX11_isDead_X11 : ∀ w ∈ wsX110, w ∈ wsX11_isDead := fun w h => List.mem_cons_of_mem _ (List.mem_append_right _ h)
/-- a DAY or -1; a place below a count or -1 -/
def dayR (r : Int32) : Prop := r.toInt = -1 ∨ (0 ≤ r.toInt ∧ r.toInt ≤ 3000)
def plR (b : Int32) (n : Nat) : Prop := b.toInt = -1 ∨ (0 ≤ b.toInt ∧ b.toInt < n)
theorem plR_in {b : Int32} {n cap : Nat} (h : plR b n) (h2 : ¬ b < 0) (h3 : n ≤ cap) : vp_in b cap := by
  rw [Int32.lt_iff_toInt_lt] at h2
  have e : (0 : Int32).toInt = 0 := by decide
  rcases h with h | h
  · omega
  · exact vp_in_iff.mpr ⟨h.1, by omega⟩
theorem plR_i {i n : Nat} (h : i < n) (h3 : n < 2 ^ 31) : plR (nI i) n := Or.inr (by rw [nI_toInt (by omega)]; omega)
set_option maxHeartbeats 4000000 in
set_option maxRecDepth 100000 in
theorem c_X11_sailedOn (l : Launch) (dC : Nat → ClassId) (dI : Nat → Nat → Nat) (sz : Nat) (g0 : Nat) (pq : Nat → Nat) (cp : Nat → ClassId) (v : Nat → Int32) (fa : Nat → Nat → Int32) (nh : Nat) (hnh : nh ≤ 200) (eh : v 41 = nI nh) (hday : ∀ i, i < nh → 0 ≤ (fa 12 i).toInt ∧ (fa 12 i).toInt ≤ 3000) (x1 x2 : Int32) : Met l yX11_sailedOn wsX11_sailedOn ({ frames := 0, cells := 0, slots := 0, locals := 0 }) (va_Pc [.ref g0, .int x1, .int x2] (pcW (dC, dI) (mT cp) (mW g0 pq cp v fa) sz)) (va_Qi (fun (r : Int32) (u : Unit) => dayR r) (fun _ _ => True) (va_A [] sz)) 0 0 (va_A [] sz) := by
  refine Met.ofW (cc := cX11_sailedOn) (maxL := 4) (ret := (some .int)) (by decide +kernel) rfl ?_
  intro p e s m args below meth c s₁ B hml hv
  obtain ⟨rfl, hsz, hP, hK, hD0⟩ := hv
  have hx := B.exec
  have hb := B.bytes
  have hr := B.returns
  have hts := atoms_spec (ws := wsX11_sailedOn) B.pre
  have hown : s.vm.findClass RX11 = some m.cls := findClass_of_methodNamed B.named
  have hlocks := B.notSynchronized
  subst hsz
  have hD := hD0
  generalize hAe : va_A [] s.heap.size = A at ⊢
  have hA : ∀ q : Nat, s.heap.size ≤ q → A q := fun q h => by rw [← hAe]; exact Or.inr h
  have hS : va_S A s.heap s.heap [] := va_S.rf
  have hP : va_P (dC, dI) vwCl (mW g0 pq cp v fa) s.heap := hP
  have hl := lv_entry ([.ref g0, .int x1, .int x2]) (n := 4) (Nat.le_of_ble_eq_true rfl)
  rw [lg_entry_eq]
  generalize (lg_sl ([.ref g0, .int x1, .int x2]) ++ List.replicate (4 - (lg_sl ([.ref g0, .int x1, .int x2])).length) Slot.unset).toArray = ls at hl ⊢
  have hl : lv_has ls 4 [(0, .ref g0), (1, .int x1), (2, .int x2)] := hl
  refine lv_iconst (v := 0) hx hb dX11_sailedOn_0 (by decide +kernel) ?_
  refine lv_istore_n (lv' := [(3, .int 0), (0, .ref g0), (1, .int x1), (2, .int x2)]) hx hb dX11_sailedOn_1 rfl hl (by decide +kernel) rfl (fun ls hl => ?_)
  have hloop : ∀ (n i : Nat) (ls : Array Slot), nh ≤ i + n → i ≤ nh → lv_has ls 4 [(3, .int (nI i)), (0, .ref g0), (1, .int x1), (2, .int x2)] → W p l e (headSpec wsX11_sailedOn { frames := 0, cells := 0, slots := 0, locals := 0 }).room s m #[Value.ref g0, Value.int x1, Value.int x2] below meth c s.heap [] 0 0 (MQ below (va_Qi (fun (r : Int32) (u : Unit) => dayR r) (fun _ _ => True) A) #[Value.ref g0, Value.int x1, Value.int x2] s 0 0 A) (F0 m 2 ls []) := by
    intro n
    induction n with
    | zero =>
      intro i ls hi1 hi2 hl
      refine lv_iload_n hx hb dX11_sailedOn_2 rfl (lv_at hl 0 rfl) ?_
      refine lv_aload_n hx hb dX11_sailedOn_3 rfl (lv_at hl 1 rfl) ?_
      refine va_get (D := (dC, dI)) (ci := 11) (v := .int (v 41)) (C := RX11) (T := TX11) (N := 63) hx hb hts in_wsX11_sailedOn_X11 hown hK hP 0 rfl rfl 41 (by decide +kernel) (hts (.fieldLink RX11 179 "ShipOfficeModel" "happened" "I") iw_X11_sailedOn_1) (fun _ h9 => h9) rfl dX11_sailedOn_4 ?_
      refine lv_icmp_ge (tgt := 52) hx hb dX11_sailedOn_7 (by decide +kernel) (fun c_1 => ?_) (fun c_1 => absurd c_1 (fun h => h (by rw [eh]; exact nI_le (by omega) (by omega))))
      refine lv_iconst (v := (-1)) hx hb dX11_sailedOn_52 (by decide +kernel) ?_
      exact W.iret (v := (-1)) hx hb hr (fun t ht hW => ⟨⟨(-1), (), rfl, (Or.inl (by decide +kernel)), trivial⟩, hS.F ht⟩) hS.2.2 dX11_sailedOn_53
    | succ n ih =>
      intro i ls hi1 hi2 hl
      refine lv_iload_n hx hb dX11_sailedOn_2 rfl (lv_at hl 0 rfl) ?_
      refine lv_aload_n hx hb dX11_sailedOn_3 rfl (lv_at hl 1 rfl) ?_
      refine va_get (D := (dC, dI)) (ci := 11) (v := .int (v 41)) (C := RX11) (T := TX11) (N := 63) hx hb hts in_wsX11_sailedOn_X11 hown hK hP 0 rfl rfl 41 (by decide +kernel) (hts (.fieldLink RX11 179 "ShipOfficeModel" "happened" "I") iw_X11_sailedOn_1) (fun _ h9 => h9) rfl dX11_sailedOn_4 ?_
      refine lv_icmp_ge (tgt := 52) hx hb dX11_sailedOn_7 (by decide +kernel) (fun c_2 => ?_) (fun c_2 => ?_)
      · refine lv_iconst (v := (-1)) hx hb dX11_sailedOn_52 (by decide +kernel) ?_
        exact W.iret (v := (-1)) hx hb hr (fun t ht hW => ⟨⟨(-1), (), rfl, (Or.inl (by decide +kernel)), trivial⟩, hS.F ht⟩) hS.2.2 dX11_sailedOn_53
      · have hi : i < nh := by
          rcases Nat.lt_or_ge i nh with h | h
          · exact h
          · exact absurd (by rw [eh]; exact nI_le h (by omega)) c_2
        refine lv_aload_n hx hb dX11_sailedOn_10 rfl (lv_at hl 1 rfl) ?_
        refine va_get (D := (dC, dI)) (ci := 11) (v := .ref (pq 10)) (C := RX11) (T := TX11) (N := 63) hx hb hts in_wsX11_sailedOn_X11 hown hK hP 0 rfl rfl 10 (by decide +kernel) (hts (.fieldLink RX11 40 "ShipOfficeModel" "what" "[I") iw_X11_sailedOn_2) (fun _ h9 => h9) rfl dX11_sailedOn_11 ?_
        refine lv_iload_n hx hb dX11_sailedOn_14 rfl (lv_at hl 0 rfl) ?_
        refine va_iald hx hb hK hP 11 10 rfl rfl (vp_in_nI (by omega) (by decide +kernel)) dX11_sailedOn_15 ?_
        refine lv_if_ne (tgt := 46) hx hb dX11_sailedOn_16 (by decide +kernel) (fun c_3 => ?_) (fun c_3 => ?_)
        · refine lv_iinc (v := nI (i + 1)) (lv' := [(3, .int (nI (i + 1))), (0, .ref g0), (1, .int x1), (2, .int x2)]) hx hb dX11_sailedOn_46 hl (k := 0) rfl (nI_1 i) (by decide +kernel) rfl (fun ls hl => ?_)
          refine lv_goto (tgt := 2) hx hb dX11_sailedOn_49 (by decide +kernel) ?_
          exact ih (i + 1) ls (by omega) (by omega) (lv_sub hl [0, 1, 2, 3] rfl)
        · refine lv_aload_n hx hb dX11_sailedOn_19 rfl (lv_at hl 1 rfl) ?_
          refine va_get (D := (dC, dI)) (ci := 11) (v := .ref (pq 11)) (C := RX11) (T := TX11) (N := 63) hx hb hts in_wsX11_sailedOn_X11 hown hK hP 0 rfl rfl 11 (by decide +kernel) (hts (.fieldLink RX11 43 "ShipOfficeModel" "whose" "[I") iw_X11_sailedOn_3) (fun _ h9 => h9) rfl dX11_sailedOn_20 ?_
          refine lv_iload_n hx hb dX11_sailedOn_23 rfl (lv_at hl 0 rfl) ?_
          refine va_iald hx hb hK hP 12 11 rfl rfl (vp_in_nI (by omega) (by decide +kernel)) dX11_sailedOn_24 ?_
          refine lv_iload_n hx hb dX11_sailedOn_25 rfl (lv_at hl 2 rfl) ?_
          refine lv_icmp_ne (tgt := 46) hx hb dX11_sailedOn_26 (by decide +kernel) (fun c_4 => ?_) (fun c_4 => ?_)
          · refine lv_iinc (v := nI (i + 1)) (lv' := [(3, .int (nI (i + 1))), (0, .ref g0), (1, .int x1), (2, .int x2)]) hx hb dX11_sailedOn_46 hl (k := 0) rfl (nI_1 i) (by decide +kernel) rfl (fun ls hl => ?_)
            refine lv_goto (tgt := 2) hx hb dX11_sailedOn_49 (by decide +kernel) ?_
            exact ih (i + 1) ls (by omega) (by omega) (lv_sub hl [0, 1, 2, 3] rfl)
          · refine lv_aload_n hx hb dX11_sailedOn_29 rfl (lv_at hl 1 rfl) ?_
            refine va_get (D := (dC, dI)) (ci := 11) (v := .ref (pq 13)) (C := RX11) (T := TX11) (N := 63) hx hb hts in_wsX11_sailedOn_X11 hown hK hP 0 rfl rfl 13 (by decide +kernel) (hts (.fieldLink RX11 49 "ShipOfficeModel" "known" "[I") iw_X11_sailedOn_4) (fun _ h9 => h9) rfl dX11_sailedOn_30 ?_
            refine lv_iload_n hx hb dX11_sailedOn_33 rfl (lv_at hl 0 rfl) ?_
            refine va_iald hx hb hK hP 14 13 rfl rfl (vp_in_nI (by omega) (by decide +kernel)) dX11_sailedOn_34 ?_
            refine lv_iload_n hx hb dX11_sailedOn_35 rfl (lv_at hl 3 rfl) ?_
            refine lv_icmp_gt (tgt := 46) hx hb dX11_sailedOn_36 (by decide +kernel) (fun c_5 => ?_) (fun c_5 => ?_)
            · refine lv_iinc (v := nI (i + 1)) (lv' := [(3, .int (nI (i + 1))), (0, .ref g0), (1, .int x1), (2, .int x2)]) hx hb dX11_sailedOn_46 hl (k := 0) rfl (nI_1 i) (by decide +kernel) rfl (fun ls hl => ?_)
              refine lv_goto (tgt := 2) hx hb dX11_sailedOn_49 (by decide +kernel) ?_
              exact ih (i + 1) ls (by omega) (by omega) (lv_sub hl [0, 1, 2, 3] rfl)
            · refine lv_aload_n hx hb dX11_sailedOn_39 rfl (lv_at hl 1 rfl) ?_
              refine va_get (D := (dC, dI)) (ci := 11) (v := .ref (pq 12)) (C := RX11) (T := TX11) (N := 63) hx hb hts in_wsX11_sailedOn_X11 hown hK hP 0 rfl rfl 12 (by decide +kernel) (hts (.fieldLink RX11 46 "ShipOfficeModel" "day" "[I") iw_X11_sailedOn_5) (fun _ h9 => h9) rfl dX11_sailedOn_40 ?_
              refine lv_iload_n hx hb dX11_sailedOn_43 rfl (lv_at hl 0 rfl) ?_
              refine va_iald hx hb hK hP 13 12 rfl rfl (vp_in_nI (by omega) (by decide +kernel)) dX11_sailedOn_44 ?_
              exact W.iret (v := (fa 12 (nI i : Int32).toNatClampNeg)) hx hb hr (fun t ht hW => ⟨⟨(fa 12 (nI i : Int32).toNatClampNeg), (), rfl, (Or.inr (by rw [nI_clamp (by omega)]; exact hday i hi)), trivial⟩, hS.F ht⟩) hS.2.2 dX11_sailedOn_45
  exact hloop nh 0 ls (by omega) (by omega) (lv_sub hl [0, 1, 2, 3] rfl)
set_option maxHeartbeats 4000000 in
set_option maxRecDepth 100000 in
theorem c_X11_lastHeard (l : Launch) (dC : Nat → ClassId) (dI : Nat → Nat → Nat) (sz : Nat) (g0 : Nat) (pq : Nat → Nat) (cp : Nat → ClassId) (v : Nat → Int32) (fa : Nat → Nat → Int32) (nh : Nat) (hnh : nh ≤ 200) (eh : v 41 = nI nh) (hday : ∀ i, i < nh → 0 ≤ (fa 12 i).toInt ∧ (fa 12 i).toInt ≤ 3000) (x1 x2 x3 : Int32) : Met l yX11_lastHeard wsX11_lastHeard ({ frames := 0, cells := 0, slots := 0, locals := 0 }) (va_Pc [.ref g0, .int x1, .int x2, .int x3] (pcW (dC, dI) (mT cp) (mW g0 pq cp v fa) sz)) (va_Qi (fun (r : Int32) (u : Unit) => dayR r) (fun _ _ => True) (va_A [] sz)) 0 0 (va_A [] sz) := by
  refine Met.ofW (cc := cX11_lastHeard) (maxL := 6) (ret := (some .int)) (by decide +kernel) rfl ?_
  intro p e s m args below meth c s₁ B hml hv
  obtain ⟨rfl, hsz, hP, hK, hD0⟩ := hv
  have hx := B.exec
  have hb := B.bytes
  have hr := B.returns
  have hts := atoms_spec (ws := wsX11_lastHeard) B.pre
  have hown : s.vm.findClass RX11 = some m.cls := findClass_of_methodNamed B.named
  have hlocks := B.notSynchronized
  subst hsz
  have hD := hD0
  generalize hAe : va_A [] s.heap.size = A at ⊢
  have hA : ∀ q : Nat, s.heap.size ≤ q → A q := fun q h => by rw [← hAe]; exact Or.inr h
  have hS : va_S A s.heap s.heap [] := va_S.rf
  have hP : va_P (dC, dI) vwCl (mW g0 pq cp v fa) s.heap := hP
  have hl := lv_entry ([.ref g0, .int x1, .int x2, .int x3]) (n := 6) (Nat.le_of_ble_eq_true rfl)
  rw [lg_entry_eq]
  generalize (lg_sl ([.ref g0, .int x1, .int x2, .int x3]) ++ List.replicate (6 - (lg_sl ([.ref g0, .int x1, .int x2, .int x3])).length) Slot.unset).toArray = ls at hl ⊢
  have hl : lv_has ls 6 [(0, .ref g0), (1, .int x1), (2, .int x2), (3, .int x3)] := hl
  refine lv_iconst (v := (-1)) hx hb dX11_lastHeard_0 (by decide +kernel) ?_
  refine lv_istore (lv' := [(4, .int (-1)), (0, .ref g0), (1, .int x1), (2, .int x2), (3, .int x3)]) hx hb dX11_lastHeard_1 hl (by decide +kernel) rfl (fun ls hl => ?_)
  refine lv_iconst (v := 0) hx hb dX11_lastHeard_3 (by decide +kernel) ?_
  refine lv_istore (lv' := [(5, .int 0), (4, .int (-1)), (0, .ref g0), (1, .int x1), (2, .int x2), (3, .int x3)]) hx hb dX11_lastHeard_4 hl (by decide +kernel) rfl (fun ls hl => ?_)
  have hloop : ∀ (n i : Nat) (lst : Int32) (ls : Array Slot), nh ≤ i + n → i ≤ nh → (dayR lst) → lv_has ls 6 [(5, .int (nI i)), (4, .int lst), (0, .ref g0), (1, .int x1), (2, .int x2), (3, .int x3)] → W p l e (headSpec wsX11_lastHeard { frames := 0, cells := 0, slots := 0, locals := 0 }).room s m #[Value.ref g0, Value.int x1, Value.int x2, Value.int x3] below meth c s.heap [] 0 0 (MQ below (va_Qi (fun (r : Int32) (u : Unit) => dayR r) (fun _ _ => True) A) #[Value.ref g0, Value.int x1, Value.int x2, Value.int x3] s 0 0 A) (F0 m 6 ls []) := by
    intro n
    induction n with
    | zero =>
      intro i lst ls hi1 hi2 hlst hl
      refine lv_iload hx hb dX11_lastHeard_6 (lv_at hl 0 rfl) ?_
      refine lv_aload_n hx hb dX11_lastHeard_8 rfl (lv_at hl 2 rfl) ?_
      refine va_get (D := (dC, dI)) (ci := 11) (v := .int (v 41)) (C := RX11) (T := TX11) (N := 63) hx hb hts in_wsX11_lastHeard_X11 hown hK hP 0 rfl rfl 41 (by decide +kernel) (hts (.fieldLink RX11 179 "ShipOfficeModel" "happened" "I") iw_X11_lastHeard_1) (fun _ h9 => h9) rfl dX11_lastHeard_9 ?_
      refine lv_icmp_ge (tgt := 96) hx hb dX11_lastHeard_12 (by decide +kernel) (fun c_1 => ?_) (fun c_1 => absurd c_1 (fun h => h (by rw [eh]; exact nI_le (by omega) (by omega))))
      refine lv_iload hx hb dX11_lastHeard_96 (lv_at hl 1 rfl) ?_
      exact W.iret (v := lst) hx hb hr (fun t ht hW => ⟨⟨lst, (), rfl, hlst, trivial⟩, hS.F ht⟩) hS.2.2 dX11_lastHeard_98
    | succ n ih =>
      intro i lst ls hi1 hi2 hlst hl
      refine lv_iload hx hb dX11_lastHeard_6 (lv_at hl 0 rfl) ?_
      refine lv_aload_n hx hb dX11_lastHeard_8 rfl (lv_at hl 2 rfl) ?_
      refine va_get (D := (dC, dI)) (ci := 11) (v := .int (v 41)) (C := RX11) (T := TX11) (N := 63) hx hb hts in_wsX11_lastHeard_X11 hown hK hP 0 rfl rfl 41 (by decide +kernel) (hts (.fieldLink RX11 179 "ShipOfficeModel" "happened" "I") iw_X11_lastHeard_1) (fun _ h9 => h9) rfl dX11_lastHeard_9 ?_
      refine lv_icmp_ge (tgt := 96) hx hb dX11_lastHeard_12 (by decide +kernel) (fun c_2 => ?_) (fun c_2 => ?_)
      · refine lv_iload hx hb dX11_lastHeard_96 (lv_at hl 1 rfl) ?_
        exact W.iret (v := lst) hx hb hr (fun t ht hW => ⟨⟨lst, (), rfl, hlst, trivial⟩, hS.F ht⟩) hS.2.2 dX11_lastHeard_98
      · have hi : i < nh := by
          rcases Nat.lt_or_ge i nh with h | h
          · exact h
          · exact absurd (by rw [eh]; exact nI_le h (by omega)) c_2
        refine lv_aload_n hx hb dX11_lastHeard_15 rfl (lv_at hl 2 rfl) ?_
        refine va_get (D := (dC, dI)) (ci := 11) (v := .ref (pq 10)) (C := RX11) (T := TX11) (N := 63) hx hb hts in_wsX11_lastHeard_X11 hown hK hP 0 rfl rfl 10 (by decide +kernel) (hts (.fieldLink RX11 40 "ShipOfficeModel" "what" "[I") iw_X11_lastHeard_2) (fun _ h9 => h9) rfl dX11_lastHeard_16 ?_
        refine lv_iload hx hb dX11_lastHeard_19 (lv_at hl 0 rfl) ?_
        refine va_iald hx hb hK hP 11 10 rfl rfl (vp_in_nI (by omega) (by decide +kernel)) dX11_lastHeard_21 ?_
        refine lv_iconst (v := 1) hx hb dX11_lastHeard_22 (by decide +kernel) ?_
        refine lv_icmp_eq (tgt := 36) hx hb dX11_lastHeard_23 (by decide +kernel) (fun c_3 => ?_) (fun c_3 => ?_)
        · refine lv_aload_n hx hb dX11_lastHeard_36 rfl (lv_at hl 2 rfl) ?_
          refine va_get (D := (dC, dI)) (ci := 11) (v := .ref (pq 11)) (C := RX11) (T := TX11) (N := 63) hx hb hts in_wsX11_lastHeard_X11 hown hK hP 0 rfl rfl 11 (by decide +kernel) (hts (.fieldLink RX11 43 "ShipOfficeModel" "whose" "[I") iw_X11_lastHeard_3) (fun _ h9 => h9) rfl dX11_lastHeard_37 ?_
          refine lv_iload hx hb dX11_lastHeard_40 (lv_at hl 0 rfl) ?_
          refine va_iald hx hb hK hP 12 11 rfl rfl (vp_in_nI (by omega) (by decide +kernel)) dX11_lastHeard_42 ?_
          refine lv_iload_n hx hb dX11_lastHeard_43 rfl (lv_at hl 3 rfl) ?_
          refine lv_icmp_ne (tgt := 90) hx hb dX11_lastHeard_44 (by decide +kernel) (fun c_4 => ?_) (fun c_4 => ?_)
          · refine lv_iinc (v := nI (i + 1)) (lv' := [(5, .int (nI (i + 1))), (4, .int lst), (0, .ref g0), (1, .int x1), (2, .int x2), (3, .int x3)]) hx hb dX11_lastHeard_90 hl (k := 0) rfl (nI_1 i) (by decide +kernel) rfl (fun ls hl => ?_)
            refine lv_goto (tgt := 6) hx hb dX11_lastHeard_93 (by decide +kernel) ?_
            exact ih (i + 1) lst ls (by omega) (by omega) hlst (lv_sub hl [0, 1, 2, 3, 4, 5] rfl)
          · refine lv_aload_n hx hb dX11_lastHeard_47 rfl (lv_at hl 2 rfl) ?_
            refine va_get (D := (dC, dI)) (ci := 11) (v := .ref (pq 13)) (C := RX11) (T := TX11) (N := 63) hx hb hts in_wsX11_lastHeard_X11 hown hK hP 0 rfl rfl 13 (by decide +kernel) (hts (.fieldLink RX11 49 "ShipOfficeModel" "known" "[I") iw_X11_lastHeard_4) (fun _ h9 => h9) rfl dX11_lastHeard_48 ?_
            refine lv_iload hx hb dX11_lastHeard_51 (lv_at hl 0 rfl) ?_
            refine va_iald hx hb hK hP 14 13 rfl rfl (vp_in_nI (by omega) (by decide +kernel)) dX11_lastHeard_53 ?_
            refine lv_iload_n hx hb dX11_lastHeard_54 rfl (lv_at hl 5 rfl) ?_
            refine lv_icmp_gt (tgt := 90) hx hb dX11_lastHeard_55 (by decide +kernel) (fun c_5 => ?_) (fun c_5 => ?_)
            · refine lv_iinc (v := nI (i + 1)) (lv' := [(5, .int (nI (i + 1))), (4, .int lst), (0, .ref g0), (1, .int x1), (2, .int x2), (3, .int x3)]) hx hb dX11_lastHeard_90 hl (k := 0) rfl (nI_1 i) (by decide +kernel) rfl (fun ls hl => ?_)
              refine lv_goto (tgt := 6) hx hb dX11_lastHeard_93 (by decide +kernel) ?_
              exact ih (i + 1) lst ls (by omega) (by omega) hlst (lv_sub hl [0, 1, 2, 3, 4, 5] rfl)
            · refine lv_aload_n hx hb dX11_lastHeard_58 rfl (lv_at hl 2 rfl) ?_
              refine va_get (D := (dC, dI)) (ci := 11) (v := .ref (pq 12)) (C := RX11) (T := TX11) (N := 63) hx hb hts in_wsX11_lastHeard_X11 hown hK hP 0 rfl rfl 12 (by decide +kernel) (hts (.fieldLink RX11 46 "ShipOfficeModel" "day" "[I") iw_X11_lastHeard_5) (fun _ h9 => h9) rfl dX11_lastHeard_59 ?_
              refine lv_iload hx hb dX11_lastHeard_62 (lv_at hl 0 rfl) ?_
              refine va_iald hx hb hK hP 13 12 rfl rfl (vp_in_nI (by omega) (by decide +kernel)) dX11_lastHeard_64 ?_
              refine lv_iload_n hx hb dX11_lastHeard_65 rfl (lv_at hl 4 rfl) ?_
              refine lv_icmp_gt (tgt := 90) hx hb dX11_lastHeard_66 (by decide +kernel) (fun c_6 => ?_) (fun c_6 => ?_)
              · refine lv_iinc (v := nI (i + 1)) (lv' := [(5, .int (nI (i + 1))), (4, .int lst), (0, .ref g0), (1, .int x1), (2, .int x2), (3, .int x3)]) hx hb dX11_lastHeard_90 hl (k := 0) rfl (nI_1 i) (by decide +kernel) rfl (fun ls hl => ?_)
                refine lv_goto (tgt := 6) hx hb dX11_lastHeard_93 (by decide +kernel) ?_
                exact ih (i + 1) lst ls (by omega) (by omega) hlst (lv_sub hl [0, 1, 2, 3, 4, 5] rfl)
              · refine lv_aload_n hx hb dX11_lastHeard_69 rfl (lv_at hl 2 rfl) ?_
                refine va_get (D := (dC, dI)) (ci := 11) (v := .ref (pq 12)) (C := RX11) (T := TX11) (N := 63) hx hb hts in_wsX11_lastHeard_X11 hown hK hP 0 rfl rfl 12 (by decide +kernel) (hts (.fieldLink RX11 46 "ShipOfficeModel" "day" "[I") iw_X11_lastHeard_5) (fun _ h9 => h9) rfl dX11_lastHeard_70 ?_
                refine lv_iload hx hb dX11_lastHeard_73 (lv_at hl 0 rfl) ?_
                refine va_iald hx hb hK hP 13 12 rfl rfl (vp_in_nI (by omega) (by decide +kernel)) dX11_lastHeard_75 ?_
                refine lv_iload hx hb dX11_lastHeard_76 (lv_at hl 1 rfl) ?_
                refine lv_icmp_le (tgt := 90) hx hb dX11_lastHeard_78 (by decide +kernel) (fun c_7 => ?_) (fun c_7 => ?_)
                · refine lv_iinc (v := nI (i + 1)) (lv' := [(5, .int (nI (i + 1))), (4, .int lst), (0, .ref g0), (1, .int x1), (2, .int x2), (3, .int x3)]) hx hb dX11_lastHeard_90 hl (k := 0) rfl (nI_1 i) (by decide +kernel) rfl (fun ls hl => ?_)
                  refine lv_goto (tgt := 6) hx hb dX11_lastHeard_93 (by decide +kernel) ?_
                  exact ih (i + 1) lst ls (by omega) (by omega) hlst (lv_sub hl [0, 1, 2, 3, 4, 5] rfl)
                · refine lv_aload_n hx hb dX11_lastHeard_81 rfl (lv_at hl 2 rfl) ?_
                  refine va_get (D := (dC, dI)) (ci := 11) (v := .ref (pq 12)) (C := RX11) (T := TX11) (N := 63) hx hb hts in_wsX11_lastHeard_X11 hown hK hP 0 rfl rfl 12 (by decide +kernel) (hts (.fieldLink RX11 46 "ShipOfficeModel" "day" "[I") iw_X11_lastHeard_5) (fun _ h9 => h9) rfl dX11_lastHeard_82 ?_
                  refine lv_iload hx hb dX11_lastHeard_85 (lv_at hl 0 rfl) ?_
                  refine va_iald hx hb hK hP 13 12 rfl rfl (vp_in_nI (by omega) (by decide +kernel)) dX11_lastHeard_87 ?_
                  refine lv_istore (lv' := [(4, .int (fa 12 (nI i : Int32).toNatClampNeg)), (5, .int (nI i)), (0, .ref g0), (1, .int x1), (2, .int x2), (3, .int x3)]) hx hb dX11_lastHeard_88 hl (by decide +kernel) rfl (fun ls hl => ?_)
                  refine lv_iinc (v := nI (i + 1)) (lv' := [(5, .int (nI (i + 1))), (4, .int (fa 12 (nI i : Int32).toNatClampNeg)), (0, .ref g0), (1, .int x1), (2, .int x2), (3, .int x3)]) hx hb dX11_lastHeard_90 hl (k := 1) rfl (nI_1 i) (by decide +kernel) rfl (fun ls hl => ?_)
                  refine lv_goto (tgt := 6) hx hb dX11_lastHeard_93 (by decide +kernel) ?_
                  exact ih (i + 1) (fa 12 (nI i : Int32).toNatClampNeg) ls (by omega) (by omega) (Or.inr (by rw [nI_clamp (by omega)]; exact hday i hi)) (lv_sub hl [0, 1, 2, 3, 4, 5] rfl)
        · refine lv_aload_n hx hb dX11_lastHeard_26 rfl (lv_at hl 2 rfl) ?_
          refine va_get (D := (dC, dI)) (ci := 11) (v := .ref (pq 10)) (C := RX11) (T := TX11) (N := 63) hx hb hts in_wsX11_lastHeard_X11 hown hK hP 0 rfl rfl 10 (by decide +kernel) (hts (.fieldLink RX11 40 "ShipOfficeModel" "what" "[I") iw_X11_lastHeard_2) (fun _ h9 => h9) rfl dX11_lastHeard_27 ?_
          refine lv_iload hx hb dX11_lastHeard_30 (lv_at hl 0 rfl) ?_
          refine va_iald hx hb hK hP 11 10 rfl rfl (vp_in_nI (by omega) (by decide +kernel)) dX11_lastHeard_32 ?_
          refine lv_if_ne (tgt := 90) hx hb dX11_lastHeard_33 (by decide +kernel) (fun c_8 => ?_) (fun c_8 => ?_)
          · refine lv_iinc (v := nI (i + 1)) (lv' := [(5, .int (nI (i + 1))), (4, .int lst), (0, .ref g0), (1, .int x1), (2, .int x2), (3, .int x3)]) hx hb dX11_lastHeard_90 hl (k := 0) rfl (nI_1 i) (by decide +kernel) rfl (fun ls hl => ?_)
            refine lv_goto (tgt := 6) hx hb dX11_lastHeard_93 (by decide +kernel) ?_
            exact ih (i + 1) lst ls (by omega) (by omega) hlst (lv_sub hl [0, 1, 2, 3, 4, 5] rfl)
          · refine lv_aload_n hx hb dX11_lastHeard_36 rfl (lv_at hl 2 rfl) ?_
            refine va_get (D := (dC, dI)) (ci := 11) (v := .ref (pq 11)) (C := RX11) (T := TX11) (N := 63) hx hb hts in_wsX11_lastHeard_X11 hown hK hP 0 rfl rfl 11 (by decide +kernel) (hts (.fieldLink RX11 43 "ShipOfficeModel" "whose" "[I") iw_X11_lastHeard_3) (fun _ h9 => h9) rfl dX11_lastHeard_37 ?_
            refine lv_iload hx hb dX11_lastHeard_40 (lv_at hl 0 rfl) ?_
            refine va_iald hx hb hK hP 12 11 rfl rfl (vp_in_nI (by omega) (by decide +kernel)) dX11_lastHeard_42 ?_
            refine lv_iload_n hx hb dX11_lastHeard_43 rfl (lv_at hl 3 rfl) ?_
            refine lv_icmp_ne (tgt := 90) hx hb dX11_lastHeard_44 (by decide +kernel) (fun c_9 => ?_) (fun c_9 => ?_)
            · refine lv_iinc (v := nI (i + 1)) (lv' := [(5, .int (nI (i + 1))), (4, .int lst), (0, .ref g0), (1, .int x1), (2, .int x2), (3, .int x3)]) hx hb dX11_lastHeard_90 hl (k := 0) rfl (nI_1 i) (by decide +kernel) rfl (fun ls hl => ?_)
              refine lv_goto (tgt := 6) hx hb dX11_lastHeard_93 (by decide +kernel) ?_
              exact ih (i + 1) lst ls (by omega) (by omega) hlst (lv_sub hl [0, 1, 2, 3, 4, 5] rfl)
            · refine lv_aload_n hx hb dX11_lastHeard_47 rfl (lv_at hl 2 rfl) ?_
              refine va_get (D := (dC, dI)) (ci := 11) (v := .ref (pq 13)) (C := RX11) (T := TX11) (N := 63) hx hb hts in_wsX11_lastHeard_X11 hown hK hP 0 rfl rfl 13 (by decide +kernel) (hts (.fieldLink RX11 49 "ShipOfficeModel" "known" "[I") iw_X11_lastHeard_4) (fun _ h9 => h9) rfl dX11_lastHeard_48 ?_
              refine lv_iload hx hb dX11_lastHeard_51 (lv_at hl 0 rfl) ?_
              refine va_iald hx hb hK hP 14 13 rfl rfl (vp_in_nI (by omega) (by decide +kernel)) dX11_lastHeard_53 ?_
              refine lv_iload_n hx hb dX11_lastHeard_54 rfl (lv_at hl 5 rfl) ?_
              refine lv_icmp_gt (tgt := 90) hx hb dX11_lastHeard_55 (by decide +kernel) (fun c_10 => ?_) (fun c_10 => ?_)
              · refine lv_iinc (v := nI (i + 1)) (lv' := [(5, .int (nI (i + 1))), (4, .int lst), (0, .ref g0), (1, .int x1), (2, .int x2), (3, .int x3)]) hx hb dX11_lastHeard_90 hl (k := 0) rfl (nI_1 i) (by decide +kernel) rfl (fun ls hl => ?_)
                refine lv_goto (tgt := 6) hx hb dX11_lastHeard_93 (by decide +kernel) ?_
                exact ih (i + 1) lst ls (by omega) (by omega) hlst (lv_sub hl [0, 1, 2, 3, 4, 5] rfl)
              · refine lv_aload_n hx hb dX11_lastHeard_58 rfl (lv_at hl 2 rfl) ?_
                refine va_get (D := (dC, dI)) (ci := 11) (v := .ref (pq 12)) (C := RX11) (T := TX11) (N := 63) hx hb hts in_wsX11_lastHeard_X11 hown hK hP 0 rfl rfl 12 (by decide +kernel) (hts (.fieldLink RX11 46 "ShipOfficeModel" "day" "[I") iw_X11_lastHeard_5) (fun _ h9 => h9) rfl dX11_lastHeard_59 ?_
                refine lv_iload hx hb dX11_lastHeard_62 (lv_at hl 0 rfl) ?_
                refine va_iald hx hb hK hP 13 12 rfl rfl (vp_in_nI (by omega) (by decide +kernel)) dX11_lastHeard_64 ?_
                refine lv_iload_n hx hb dX11_lastHeard_65 rfl (lv_at hl 4 rfl) ?_
                refine lv_icmp_gt (tgt := 90) hx hb dX11_lastHeard_66 (by decide +kernel) (fun c_11 => ?_) (fun c_11 => ?_)
                · refine lv_iinc (v := nI (i + 1)) (lv' := [(5, .int (nI (i + 1))), (4, .int lst), (0, .ref g0), (1, .int x1), (2, .int x2), (3, .int x3)]) hx hb dX11_lastHeard_90 hl (k := 0) rfl (nI_1 i) (by decide +kernel) rfl (fun ls hl => ?_)
                  refine lv_goto (tgt := 6) hx hb dX11_lastHeard_93 (by decide +kernel) ?_
                  exact ih (i + 1) lst ls (by omega) (by omega) hlst (lv_sub hl [0, 1, 2, 3, 4, 5] rfl)
                · refine lv_aload_n hx hb dX11_lastHeard_69 rfl (lv_at hl 2 rfl) ?_
                  refine va_get (D := (dC, dI)) (ci := 11) (v := .ref (pq 12)) (C := RX11) (T := TX11) (N := 63) hx hb hts in_wsX11_lastHeard_X11 hown hK hP 0 rfl rfl 12 (by decide +kernel) (hts (.fieldLink RX11 46 "ShipOfficeModel" "day" "[I") iw_X11_lastHeard_5) (fun _ h9 => h9) rfl dX11_lastHeard_70 ?_
                  refine lv_iload hx hb dX11_lastHeard_73 (lv_at hl 0 rfl) ?_
                  refine va_iald hx hb hK hP 13 12 rfl rfl (vp_in_nI (by omega) (by decide +kernel)) dX11_lastHeard_75 ?_
                  refine lv_iload hx hb dX11_lastHeard_76 (lv_at hl 1 rfl) ?_
                  refine lv_icmp_le (tgt := 90) hx hb dX11_lastHeard_78 (by decide +kernel) (fun c_12 => ?_) (fun c_12 => ?_)
                  · refine lv_iinc (v := nI (i + 1)) (lv' := [(5, .int (nI (i + 1))), (4, .int lst), (0, .ref g0), (1, .int x1), (2, .int x2), (3, .int x3)]) hx hb dX11_lastHeard_90 hl (k := 0) rfl (nI_1 i) (by decide +kernel) rfl (fun ls hl => ?_)
                    refine lv_goto (tgt := 6) hx hb dX11_lastHeard_93 (by decide +kernel) ?_
                    exact ih (i + 1) lst ls (by omega) (by omega) hlst (lv_sub hl [0, 1, 2, 3, 4, 5] rfl)
                  · refine lv_aload_n hx hb dX11_lastHeard_81 rfl (lv_at hl 2 rfl) ?_
                    refine va_get (D := (dC, dI)) (ci := 11) (v := .ref (pq 12)) (C := RX11) (T := TX11) (N := 63) hx hb hts in_wsX11_lastHeard_X11 hown hK hP 0 rfl rfl 12 (by decide +kernel) (hts (.fieldLink RX11 46 "ShipOfficeModel" "day" "[I") iw_X11_lastHeard_5) (fun _ h9 => h9) rfl dX11_lastHeard_82 ?_
                    refine lv_iload hx hb dX11_lastHeard_85 (lv_at hl 0 rfl) ?_
                    refine va_iald hx hb hK hP 13 12 rfl rfl (vp_in_nI (by omega) (by decide +kernel)) dX11_lastHeard_87 ?_
                    refine lv_istore (lv' := [(4, .int (fa 12 (nI i : Int32).toNatClampNeg)), (5, .int (nI i)), (0, .ref g0), (1, .int x1), (2, .int x2), (3, .int x3)]) hx hb dX11_lastHeard_88 hl (by decide +kernel) rfl (fun ls hl => ?_)
                    refine lv_iinc (v := nI (i + 1)) (lv' := [(5, .int (nI (i + 1))), (4, .int (fa 12 (nI i : Int32).toNatClampNeg)), (0, .ref g0), (1, .int x1), (2, .int x2), (3, .int x3)]) hx hb dX11_lastHeard_90 hl (k := 1) rfl (nI_1 i) (by decide +kernel) rfl (fun ls hl => ?_)
                    refine lv_goto (tgt := 6) hx hb dX11_lastHeard_93 (by decide +kernel) ?_
                    exact ih (i + 1) (fa 12 (nI i : Int32).toNatClampNeg) ls (by omega) (by omega) (Or.inr (by rw [nI_clamp (by omega)]; exact hday i hi)) (lv_sub hl [0, 1, 2, 3, 4, 5] rfl)
  exact hloop nh 0 (-1) ls (by omega) (by omega) (Or.inl (by decide +kernel)) (lv_sub hl [0, 1, 2, 3, 4, 5] rfl)
set_option maxHeartbeats 4000000 in
set_option maxRecDepth 100000 in
theorem c_X11_actOn (l : Launch) (dC : Nat → ClassId) (dI : Nat → Nat → Nat) (sz : Nat) (g0 : Nat) (pq : Nat → Nat) (cp : Nat → ClassId) (v : Nat → Int32) (fa : Nat → Nat → Int32) (nc : Nat) (hnc : nc ≤ 30) (ec : v 42 = nI nc) (x1 x2 : Int32) : Met l yX11_actOn wsX11_actOn ({ frames := 0, cells := 0, slots := 0, locals := 0 }) (va_Pc [.ref g0, .int x1, .int x2] (pcW (dC, dI) (mT cp) (mW g0 pq cp v fa) sz)) (va_Qi (fun (r : Int32) (u : Unit) => plR r nc) (fun _ _ => True) (va_A [] sz)) 0 0 (va_A [] sz) := by
  refine Met.ofW (cc := cX11_actOn) (maxL := 5) (ret := (some .int)) (by decide +kernel) rfl ?_
  intro p e s m args below meth c s₁ B hml hv
  obtain ⟨rfl, hsz, hP, hK, hD0⟩ := hv
  have hx := B.exec
  have hb := B.bytes
  have hr := B.returns
  have hts := atoms_spec (ws := wsX11_actOn) B.pre
  have hown : s.vm.findClass RX11 = some m.cls := findClass_of_methodNamed B.named
  have hlocks := B.notSynchronized
  subst hsz
  have hD := hD0
  generalize hAe : va_A [] s.heap.size = A at ⊢
  have hA : ∀ q : Nat, s.heap.size ≤ q → A q := fun q h => by rw [← hAe]; exact Or.inr h
  have hS : va_S A s.heap s.heap [] := va_S.rf
  have hP : va_P (dC, dI) vwCl (mW g0 pq cp v fa) s.heap := hP
  have hl := lv_entry ([.ref g0, .int x1, .int x2]) (n := 5) (Nat.le_of_ble_eq_true rfl)
  rw [lg_entry_eq]
  generalize (lg_sl ([.ref g0, .int x1, .int x2]) ++ List.replicate (5 - (lg_sl ([.ref g0, .int x1, .int x2])).length) Slot.unset).toArray = ls at hl ⊢
  have hl : lv_has ls 5 [(0, .ref g0), (1, .int x1), (2, .int x2)] := hl
  refine lv_iconst (v := (-1)) hx hb dX11_actOn_0 (by decide +kernel) ?_
  refine lv_istore_n (lv' := [(3, .int (-1)), (0, .ref g0), (1, .int x1), (2, .int x2)]) hx hb dX11_actOn_1 rfl hl (by decide +kernel) rfl (fun ls hl => ?_)
  refine lv_iconst (v := 0) hx hb dX11_actOn_2 (by decide +kernel) ?_
  refine lv_istore (lv' := [(4, .int 0), (3, .int (-1)), (0, .ref g0), (1, .int x1), (2, .int x2)]) hx hb dX11_actOn_3 hl (by decide +kernel) rfl (fun ls hl => ?_)
  have hloop : ∀ (n i : Nat) (bst : Int32) (ls : Array Slot), nc ≤ i + n → i ≤ nc → (plR bst nc) → lv_has ls 5 [(4, .int (nI i)), (3, .int bst), (0, .ref g0), (1, .int x1), (2, .int x2)] → W p l e (headSpec wsX11_actOn { frames := 0, cells := 0, slots := 0, locals := 0 }).room s m #[Value.ref g0, Value.int x1, Value.int x2] below meth c s.heap [] 0 0 (MQ below (va_Qi (fun (r : Int32) (u : Unit) => plR r nc) (fun _ _ => True) A) #[Value.ref g0, Value.int x1, Value.int x2] s 0 0 A) (F0 m 5 ls []) := by
    intro n
    induction n with
    | zero =>
      intro i bst ls hi1 hi2 hbst hl
      refine lv_iload hx hb dX11_actOn_5 (lv_at hl 0 rfl) ?_
      refine lv_aload_n hx hb dX11_actOn_7 rfl (lv_at hl 2 rfl) ?_
      refine va_get (D := (dC, dI)) (ci := 11) (v := .int (v 42)) (C := RX11) (T := TX11) (N := 63) hx hb hts in_wsX11_actOn_X11 hown hK hP 0 rfl rfl 42 (by decide +kernel) (hts (.fieldLink RX11 256 "ShipOfficeModel" "acts" "I") iw_X11_actOn_1) (fun _ h9 => h9) rfl dX11_actOn_8 ?_
      refine lv_icmp_ge (tgt := 65) hx hb dX11_actOn_11 (by decide +kernel) (fun c_1 => ?_) (fun c_1 => absurd c_1 (fun h => h (by rw [ec]; exact nI_le (by omega) (by omega))))
      refine lv_iload_n hx hb dX11_actOn_65 rfl (lv_at hl 1 rfl) ?_
      exact W.iret (v := bst) hx hb hr (fun t ht hW => ⟨⟨bst, (), rfl, hbst, trivial⟩, hS.F ht⟩) hS.2.2 dX11_actOn_66
    | succ n ih =>
      intro i bst ls hi1 hi2 hbst hl
      refine lv_iload hx hb dX11_actOn_5 (lv_at hl 0 rfl) ?_
      refine lv_aload_n hx hb dX11_actOn_7 rfl (lv_at hl 2 rfl) ?_
      refine va_get (D := (dC, dI)) (ci := 11) (v := .int (v 42)) (C := RX11) (T := TX11) (N := 63) hx hb hts in_wsX11_actOn_X11 hown hK hP 0 rfl rfl 42 (by decide +kernel) (hts (.fieldLink RX11 256 "ShipOfficeModel" "acts" "I") iw_X11_actOn_1) (fun _ h9 => h9) rfl dX11_actOn_8 ?_
      refine lv_icmp_ge (tgt := 65) hx hb dX11_actOn_11 (by decide +kernel) (fun c_2 => ?_) (fun c_2 => ?_)
      · refine lv_iload_n hx hb dX11_actOn_65 rfl (lv_at hl 1 rfl) ?_
        exact W.iret (v := bst) hx hb hr (fun t ht hW => ⟨⟨bst, (), rfl, hbst, trivial⟩, hS.F ht⟩) hS.2.2 dX11_actOn_66
      · have hi : i < nc := by
          rcases Nat.lt_or_ge i nc with h | h
          · exact h
          · exact absurd (by rw [ec]; exact nI_le h (by omega)) c_2
        refine lv_aload_n hx hb dX11_actOn_14 rfl (lv_at hl 2 rfl) ?_
        refine va_get (D := (dC, dI)) (ci := 11) (v := .ref (pq 17)) (C := RX11) (T := TX11) (N := 63) hx hb hts in_wsX11_actOn_X11 hown hK hP 0 rfl rfl 17 (by decide +kernel) (hts (.fieldLink RX11 61 "ShipOfficeModel" "purpose" "[I") iw_X11_actOn_2) (fun _ h9 => h9) rfl dX11_actOn_15 ?_
        refine lv_iload hx hb dX11_actOn_18 (lv_at hl 0 rfl) ?_
        refine va_iald hx hb hK hP 18 17 rfl rfl (vp_in_nI (by omega) (by decide +kernel)) dX11_actOn_20 ?_
        refine lv_iload_n hx hb dX11_actOn_21 rfl (lv_at hl 3 rfl) ?_
        refine lv_icmp_ne (tgt := 59) hx hb dX11_actOn_22 (by decide +kernel) (fun c_3 => ?_) (fun c_3 => ?_)
        · refine lv_iinc (v := nI (i + 1)) (lv' := [(4, .int (nI (i + 1))), (3, .int bst), (0, .ref g0), (1, .int x1), (2, .int x2)]) hx hb dX11_actOn_59 hl (k := 0) rfl (nI_1 i) (by decide +kernel) rfl (fun ls hl => ?_)
          refine lv_goto (tgt := 5) hx hb dX11_actOn_62 (by decide +kernel) ?_
          exact ih (i + 1) bst ls (by omega) (by omega) hbst (lv_sub hl [0, 1, 2, 3, 4] rfl)
        · refine lv_aload_n hx hb dX11_actOn_25 rfl (lv_at hl 2 rfl) ?_
          refine va_get (D := (dC, dI)) (ci := 11) (v := .ref (pq 18)) (C := RX11) (T := TX11) (N := 63) hx hb hts in_wsX11_actOn_X11 hown hK hP 0 rfl rfl 18 (by decide +kernel) (hts (.fieldLink RX11 64 "ShipOfficeModel" "from" "[I") iw_X11_actOn_3) (fun _ h9 => h9) rfl dX11_actOn_26 ?_
          refine lv_iload hx hb dX11_actOn_29 (lv_at hl 0 rfl) ?_
          refine va_iald hx hb hK hP 19 18 rfl rfl (vp_in_nI (by omega) (by decide +kernel)) dX11_actOn_31 ?_
          refine lv_iload_n hx hb dX11_actOn_32 rfl (lv_at hl 4 rfl) ?_
          refine lv_icmp_gt (tgt := 59) hx hb dX11_actOn_33 (by decide +kernel) (fun c_4 => ?_) (fun c_4 => ?_)
          · refine lv_iinc (v := nI (i + 1)) (lv' := [(4, .int (nI (i + 1))), (3, .int bst), (0, .ref g0), (1, .int x1), (2, .int x2)]) hx hb dX11_actOn_59 hl (k := 0) rfl (nI_1 i) (by decide +kernel) rfl (fun ls hl => ?_)
            refine lv_goto (tgt := 5) hx hb dX11_actOn_62 (by decide +kernel) ?_
            exact ih (i + 1) bst ls (by omega) (by omega) hbst (lv_sub hl [0, 1, 2, 3, 4] rfl)
          · refine lv_iload_n hx hb dX11_actOn_36 rfl (lv_at hl 1 rfl) ?_
            refine lv_if_lt (tgt := 56) hx hb dX11_actOn_37 (by decide +kernel) (fun c_5 => ?_) (fun c_5 => ?_)
            · refine lv_iload hx hb dX11_actOn_56 (lv_at hl 0 rfl) ?_
              refine lv_istore_n (lv' := [(3, .int (nI i)), (4, .int (nI i)), (0, .ref g0), (1, .int x1), (2, .int x2)]) hx hb dX11_actOn_58 rfl hl (by decide +kernel) rfl (fun ls hl => ?_)
              refine lv_iinc (v := nI (i + 1)) (lv' := [(4, .int (nI (i + 1))), (3, .int (nI i)), (0, .ref g0), (1, .int x1), (2, .int x2)]) hx hb dX11_actOn_59 hl (k := 1) rfl (nI_1 i) (by decide +kernel) rfl (fun ls hl => ?_)
              refine lv_goto (tgt := 5) hx hb dX11_actOn_62 (by decide +kernel) ?_
              exact ih (i + 1) (nI i) ls (by omega) (by omega) (plR_i hi (by omega)) (lv_sub hl [0, 1, 2, 3, 4] rfl)
            · refine lv_aload_n hx hb dX11_actOn_40 rfl (lv_at hl 2 rfl) ?_
              refine va_get (D := (dC, dI)) (ci := 11) (v := .ref (pq 18)) (C := RX11) (T := TX11) (N := 63) hx hb hts in_wsX11_actOn_X11 hown hK hP 0 rfl rfl 18 (by decide +kernel) (hts (.fieldLink RX11 64 "ShipOfficeModel" "from" "[I") iw_X11_actOn_3) (fun _ h9 => h9) rfl dX11_actOn_41 ?_
              refine lv_iload hx hb dX11_actOn_44 (lv_at hl 0 rfl) ?_
              refine va_iald hx hb hK hP 19 18 rfl rfl (vp_in_nI (by omega) (by decide +kernel)) dX11_actOn_46 ?_
              refine lv_aload_n hx hb dX11_actOn_47 rfl (lv_at hl 2 rfl) ?_
              refine va_get (D := (dC, dI)) (ci := 11) (v := .ref (pq 18)) (C := RX11) (T := TX11) (N := 63) hx hb hts in_wsX11_actOn_X11 hown hK hP 0 rfl rfl 18 (by decide +kernel) (hts (.fieldLink RX11 64 "ShipOfficeModel" "from" "[I") iw_X11_actOn_3) (fun _ h9 => h9) rfl dX11_actOn_48 ?_
              refine lv_iload_n hx hb dX11_actOn_51 rfl (lv_at hl 1 rfl) ?_
              refine va_iald hx hb hK hP 19 18 rfl rfl (plR_in hbst c_5 hnc) dX11_actOn_52 ?_
              refine lv_icmp_lt (tgt := 59) hx hb dX11_actOn_53 (by decide +kernel) (fun c_6 => ?_) (fun c_6 => ?_)
              · refine lv_iinc (v := nI (i + 1)) (lv' := [(4, .int (nI (i + 1))), (3, .int bst), (0, .ref g0), (1, .int x1), (2, .int x2)]) hx hb dX11_actOn_59 hl (k := 0) rfl (nI_1 i) (by decide +kernel) rfl (fun ls hl => ?_)
                refine lv_goto (tgt := 5) hx hb dX11_actOn_62 (by decide +kernel) ?_
                exact ih (i + 1) bst ls (by omega) (by omega) hbst (lv_sub hl [0, 1, 2, 3, 4] rfl)
              · refine lv_iload hx hb dX11_actOn_56 (lv_at hl 0 rfl) ?_
                refine lv_istore_n (lv' := [(3, .int (nI i)), (4, .int (nI i)), (0, .ref g0), (1, .int x1), (2, .int x2)]) hx hb dX11_actOn_58 rfl hl (by decide +kernel) rfl (fun ls hl => ?_)
                refine lv_iinc (v := nI (i + 1)) (lv' := [(4, .int (nI (i + 1))), (3, .int (nI i)), (0, .ref g0), (1, .int x1), (2, .int x2)]) hx hb dX11_actOn_59 hl (k := 1) rfl (nI_1 i) (by decide +kernel) rfl (fun ls hl => ?_)
                refine lv_goto (tgt := 5) hx hb dX11_actOn_62 (by decide +kernel) ?_
                exact ih (i + 1) (nI i) ls (by omega) (by omega) (plR_i hi (by omega)) (lv_sub hl [0, 1, 2, 3, 4] rfl)
  exact hloop nc 0 (-1) ls (by omega) (by omega) (Or.inl (by decide +kernel)) (lv_sub hl [0, 1, 2, 3, 4] rfl)
set_option maxHeartbeats 4000000 in
set_option maxRecDepth 100000 in
theorem c_X11_isDead (l : Launch) (dC : Nat → ClassId) (dI : Nat → Nat → Nat) (sz : Nat) (g0 : Nat) (pq : Nat → Nat) (cp : Nat → ClassId) (v : Nat → Int32) (fa : Nat → Nat → Int32) (nh : Nat) (hnh : nh ≤ 200) (eh : v 41 = nI nh) (x1 x2 x3 : Int32) (hx1 : vp_in x1 60) : Met l yX11_isDead wsX11_isDead ({ frames := 0, cells := 0, slots := 0, locals := 0 }) (va_Pc [.ref g0, .int x1, .int x2, .int x3] (pcW (dC, dI) (mT cp) (mW g0 pq cp v fa) sz)) (va_Qi (fun (r : Int32) (u : Unit) => r = 0 ∨ r = 1) (fun _ _ => True) (va_A [] sz)) 0 0 (va_A [] sz) := by
  refine Met.ofW (cc := cX11_isDead) (maxL := 5) (ret := (some .boolean)) (by decide +kernel) rfl ?_
  intro p e s m args below meth c s₁ B hml hv
  obtain ⟨rfl, hsz, hP, hK, hD0⟩ := hv
  have hx := B.exec
  have hb := B.bytes
  have hr := B.returns
  have hts := atoms_spec (ws := wsX11_isDead) B.pre
  have hown : s.vm.findClass RX11 = some m.cls := findClass_of_methodNamed B.named
  have hlocks := B.notSynchronized
  subst hsz
  have hD := hD0
  generalize hAe : va_A [] s.heap.size = A at ⊢
  have hA : ∀ q : Nat, s.heap.size ≤ q → A q := fun q h => by rw [← hAe]; exact Or.inr h
  have hS : va_S A s.heap s.heap [] := va_S.rf
  have hP : va_P (dC, dI) vwCl (mW g0 pq cp v fa) s.heap := hP
  have hl := lv_entry ([.ref g0, .int x1, .int x2, .int x3]) (n := 5) (Nat.le_of_ble_eq_true rfl)
  rw [lg_entry_eq]
  generalize (lg_sl ([.ref g0, .int x1, .int x2, .int x3]) ++ List.replicate (5 - (lg_sl ([.ref g0, .int x1, .int x2, .int x3])).length) Slot.unset).toArray = ls at hl ⊢
  have hl : lv_has ls 5 [(0, .ref g0), (1, .int x1), (2, .int x2), (3, .int x3)] := hl
  refine lv_iconst (v := 0) hx hb dX11_isDead_0 (by decide +kernel) ?_
  refine lv_istore (lv' := [(4, .int 0), (0, .ref g0), (1, .int x1), (2, .int x2), (3, .int x3)]) hx hb dX11_isDead_1 hl (by decide +kernel) rfl (fun ls hl => ?_)
  have hloop : ∀ (n i : Nat) (ls : Array Slot), nh ≤ i + n → i ≤ nh → lv_has ls 5 [(4, .int (nI i)), (0, .ref g0), (1, .int x1), (2, .int x2), (3, .int x3)] → W p l e (headSpec wsX11_isDead { frames := 0, cells := 0, slots := 0, locals := 0 }).room s m #[Value.ref g0, Value.int x1, Value.int x2, Value.int x3] below meth c s.heap [] 0 0 (MQ below (va_Qi (fun (r : Int32) (u : Unit) => r = 0 ∨ r = 1) (fun _ _ => True) A) #[Value.ref g0, Value.int x1, Value.int x2, Value.int x3] s 0 0 A) (F0 m 3 ls []) := by
    intro n
    induction n with
    | zero =>
      intro i ls hi1 hi2 hl
      refine lv_iload hx hb dX11_isDead_3 (lv_at hl 0 rfl) ?_
      refine lv_aload_n hx hb dX11_isDead_5 rfl (lv_at hl 1 rfl) ?_
      refine va_get (D := (dC, dI)) (ci := 11) (v := .int (v 41)) (C := RX11) (T := TX11) (N := 63) hx hb hts in_wsX11_isDead_X11 hown hK hP 0 rfl rfl 41 (by decide +kernel) (hts (.fieldLink RX11 179 "ShipOfficeModel" "happened" "I") iw_X11_isDead_1) (fun _ h9 => h9) rfl dX11_isDead_6 ?_
      refine lv_icmp_ge (tgt := 91) hx hb dX11_isDead_9 (by decide +kernel) (fun c_1 => ?_) (fun c_1 => absurd c_1 (fun h => h (by rw [eh]; exact nI_le (by omega) (by omega))))
      refine lv_iconst (v := 0) hx hb dX11_isDead_91 (by decide +kernel) ?_
      exact W.zret (v := 0) hx hb hr rfl (fun t ht hW => ⟨⟨0, (), rfl, (Or.inl rfl), trivial⟩, hS.F ht⟩) hS.2.2 dX11_isDead_92
    | succ n ih =>
      intro i ls hi1 hi2 hl
      refine lv_iload hx hb dX11_isDead_3 (lv_at hl 0 rfl) ?_
      refine lv_aload_n hx hb dX11_isDead_5 rfl (lv_at hl 1 rfl) ?_
      refine va_get (D := (dC, dI)) (ci := 11) (v := .int (v 41)) (C := RX11) (T := TX11) (N := 63) hx hb hts in_wsX11_isDead_X11 hown hK hP 0 rfl rfl 41 (by decide +kernel) (hts (.fieldLink RX11 179 "ShipOfficeModel" "happened" "I") iw_X11_isDead_1) (fun _ h9 => h9) rfl dX11_isDead_6 ?_
      refine lv_icmp_ge (tgt := 91) hx hb dX11_isDead_9 (by decide +kernel) (fun c_2 => ?_) (fun c_2 => ?_)
      · refine lv_iconst (v := 0) hx hb dX11_isDead_91 (by decide +kernel) ?_
        exact W.zret (v := 0) hx hb hr rfl (fun t ht hW => ⟨⟨0, (), rfl, (Or.inl rfl), trivial⟩, hS.F ht⟩) hS.2.2 dX11_isDead_92
      · have hi : i < nh := by
          rcases Nat.lt_or_ge i nh with h | h
          · exact h
          · exact absurd (by rw [eh]; exact nI_le h (by omega)) c_2
        refine lv_aload_n hx hb dX11_isDead_12 rfl (lv_at hl 1 rfl) ?_
        refine va_get (D := (dC, dI)) (ci := 11) (v := .ref (pq 10)) (C := RX11) (T := TX11) (N := 63) hx hb hts in_wsX11_isDead_X11 hown hK hP 0 rfl rfl 10 (by decide +kernel) (hts (.fieldLink RX11 40 "ShipOfficeModel" "what" "[I") iw_X11_isDead_2) (fun _ h9 => h9) rfl dX11_isDead_13 ?_
        refine lv_iload hx hb dX11_isDead_16 (lv_at hl 0 rfl) ?_
        refine va_iald hx hb hK hP 11 10 rfl rfl (vp_in_nI (by omega) (by decide +kernel)) dX11_isDead_18 ?_
        refine lv_iconst (v := 4) hx hb dX11_isDead_19 (by decide +kernel) ?_
        refine lv_icmp_ne (tgt := 34) hx hb dX11_isDead_20 (by decide +kernel) (fun c_3 => ?_) (fun c_3 => ?_)
        · refine lv_aload_n hx hb dX11_isDead_34 rfl (lv_at hl 1 rfl) ?_
          refine va_get (D := (dC, dI)) (ci := 11) (v := .ref (pq 10)) (C := RX11) (T := TX11) (N := 63) hx hb hts in_wsX11_isDead_X11 hown hK hP 0 rfl rfl 10 (by decide +kernel) (hts (.fieldLink RX11 40 "ShipOfficeModel" "what" "[I") iw_X11_isDead_2) (fun _ h9 => h9) rfl dX11_isDead_35 ?_
          refine lv_iload hx hb dX11_isDead_38 (lv_at hl 0 rfl) ?_
          refine va_iald hx hb hK hP 11 10 rfl rfl (vp_in_nI (by omega) (by decide +kernel)) dX11_isDead_40 ?_
          refine lv_iconst (v := 2) hx hb dX11_isDead_41 (by decide +kernel) ?_
          refine lv_icmp_ne (tgt := 85) hx hb dX11_isDead_42 (by decide +kernel) (fun c_4 => ?_) (fun c_4 => ?_)
          · refine lv_iinc (v := nI (i + 1)) (lv' := [(4, .int (nI (i + 1))), (0, .ref g0), (1, .int x1), (2, .int x2), (3, .int x3)]) hx hb dX11_isDead_85 hl (k := 0) rfl (nI_1 i) (by decide +kernel) rfl (fun ls hl => ?_)
            refine lv_goto (tgt := 3) hx hb dX11_isDead_88 (by decide +kernel) ?_
            exact ih (i + 1) ls (by omega) (by omega) (lv_sub hl [0, 1, 2, 3, 4] rfl)
          · refine lv_aload_n hx hb dX11_isDead_45 rfl (lv_at hl 1 rfl) ?_
            refine va_get (D := (dC, dI)) (ci := 11) (v := .ref (pq 11)) (C := RX11) (T := TX11) (N := 63) hx hb hts in_wsX11_isDead_X11 hown hK hP 0 rfl rfl 11 (by decide +kernel) (hts (.fieldLink RX11 43 "ShipOfficeModel" "whose" "[I") iw_X11_isDead_3) (fun _ h9 => h9) rfl dX11_isDead_46 ?_
            refine lv_iload hx hb dX11_isDead_49 (lv_at hl 0 rfl) ?_
            refine va_iald hx hb hK hP 12 11 rfl rfl (vp_in_nI (by omega) (by decide +kernel)) dX11_isDead_51 ?_
            refine lv_aload_n hx hb dX11_isDead_52 rfl (lv_at hl 1 rfl) ?_
            refine va_get (D := (dC, dI)) (ci := 11) (v := .ref (pq 21)) (C := RX11) (T := TX11) (N := 63) hx hb hts in_wsX11_isDead_X11 hown hK hP 0 rfl rfl 21 (by decide +kernel) (hts (.fieldLink RX11 73 "ShipOfficeModel" "voyage" "[I") iw_X11_isDead_4) (fun _ h9 => h9) rfl dX11_isDead_53 ?_
            refine lv_iload_n hx hb dX11_isDead_56 rfl (lv_at hl 2 rfl) ?_
            refine va_iald hx hb hK hP 22 21 rfl rfl hx1 dX11_isDead_57 ?_
            refine lv_icmp_ne (tgt := 85) hx hb dX11_isDead_58 (by decide +kernel) (fun c_5 => ?_) (fun c_5 => ?_)
            · refine lv_iinc (v := nI (i + 1)) (lv' := [(4, .int (nI (i + 1))), (0, .ref g0), (1, .int x1), (2, .int x2), (3, .int x3)]) hx hb dX11_isDead_85 hl (k := 0) rfl (nI_1 i) (by decide +kernel) rfl (fun ls hl => ?_)
              refine lv_goto (tgt := 3) hx hb dX11_isDead_88 (by decide +kernel) ?_
              exact ih (i + 1) ls (by omega) (by omega) (lv_sub hl [0, 1, 2, 3, 4] rfl)
            · refine lv_aload_n hx hb dX11_isDead_61 rfl (lv_at hl 1 rfl) ?_
              refine va_get (D := (dC, dI)) (ci := 11) (v := .ref (pq 13)) (C := RX11) (T := TX11) (N := 63) hx hb hts in_wsX11_isDead_X11 hown hK hP 0 rfl rfl 13 (by decide +kernel) (hts (.fieldLink RX11 49 "ShipOfficeModel" "known" "[I") iw_X11_isDead_5) (fun _ h9 => h9) rfl dX11_isDead_62 ?_
              refine lv_iload hx hb dX11_isDead_65 (lv_at hl 0 rfl) ?_
              refine va_iald hx hb hK hP 14 13 rfl rfl (vp_in_nI (by omega) (by decide +kernel)) dX11_isDead_67 ?_
              refine lv_iload_n hx hb dX11_isDead_68 rfl (lv_at hl 4 rfl) ?_
              refine lv_icmp_gt (tgt := 85) hx hb dX11_isDead_69 (by decide +kernel) (fun c_6 => ?_) (fun c_6 => ?_)
              · refine lv_iinc (v := nI (i + 1)) (lv' := [(4, .int (nI (i + 1))), (0, .ref g0), (1, .int x1), (2, .int x2), (3, .int x3)]) hx hb dX11_isDead_85 hl (k := 0) rfl (nI_1 i) (by decide +kernel) rfl (fun ls hl => ?_)
                refine lv_goto (tgt := 3) hx hb dX11_isDead_88 (by decide +kernel) ?_
                exact ih (i + 1) ls (by omega) (by omega) (lv_sub hl [0, 1, 2, 3, 4] rfl)
              · refine lv_aload_n hx hb dX11_isDead_72 rfl (lv_at hl 1 rfl) ?_
                refine va_get (D := (dC, dI)) (ci := 11) (v := .ref (pq 12)) (C := RX11) (T := TX11) (N := 63) hx hb hts in_wsX11_isDead_X11 hown hK hP 0 rfl rfl 12 (by decide +kernel) (hts (.fieldLink RX11 46 "ShipOfficeModel" "day" "[I") iw_X11_isDead_6) (fun _ h9 => h9) rfl dX11_isDead_73 ?_
                refine lv_iload hx hb dX11_isDead_76 (lv_at hl 0 rfl) ?_
                refine va_iald hx hb hK hP 13 12 rfl rfl (vp_in_nI (by omega) (by decide +kernel)) dX11_isDead_78 ?_
                refine lv_iload_n hx hb dX11_isDead_79 rfl (lv_at hl 3 rfl) ?_
                refine lv_icmp_gt (tgt := 85) hx hb dX11_isDead_80 (by decide +kernel) (fun c_7 => ?_) (fun c_7 => ?_)
                · refine lv_iinc (v := nI (i + 1)) (lv' := [(4, .int (nI (i + 1))), (0, .ref g0), (1, .int x1), (2, .int x2), (3, .int x3)]) hx hb dX11_isDead_85 hl (k := 0) rfl (nI_1 i) (by decide +kernel) rfl (fun ls hl => ?_)
                  refine lv_goto (tgt := 3) hx hb dX11_isDead_88 (by decide +kernel) ?_
                  exact ih (i + 1) ls (by omega) (by omega) (lv_sub hl [0, 1, 2, 3, 4] rfl)
                · refine lv_iconst (v := 1) hx hb dX11_isDead_83 (by decide +kernel) ?_
                  exact W.zret (v := 1) hx hb hr rfl (fun t ht hW => ⟨⟨1, (), rfl, (Or.inr rfl), trivial⟩, hS.F ht⟩) hS.2.2 dX11_isDead_84
        · refine lv_aload_n hx hb dX11_isDead_23 rfl (lv_at hl 1 rfl) ?_
          refine va_get (D := (dC, dI)) (ci := 11) (v := .ref (pq 11)) (C := RX11) (T := TX11) (N := 63) hx hb hts in_wsX11_isDead_X11 hown hK hP 0 rfl rfl 11 (by decide +kernel) (hts (.fieldLink RX11 43 "ShipOfficeModel" "whose" "[I") iw_X11_isDead_3) (fun _ h9 => h9) rfl dX11_isDead_24 ?_
          refine lv_iload hx hb dX11_isDead_27 (lv_at hl 0 rfl) ?_
          refine va_iald hx hb hK hP 12 11 rfl rfl (vp_in_nI (by omega) (by decide +kernel)) dX11_isDead_29 ?_
          refine lv_iload_n hx hb dX11_isDead_30 rfl (lv_at hl 2 rfl) ?_
          refine lv_icmp_eq (tgt := 61) hx hb dX11_isDead_31 (by decide +kernel) (fun c_8 => ?_) (fun c_8 => ?_)
          · refine lv_aload_n hx hb dX11_isDead_61 rfl (lv_at hl 1 rfl) ?_
            refine va_get (D := (dC, dI)) (ci := 11) (v := .ref (pq 13)) (C := RX11) (T := TX11) (N := 63) hx hb hts in_wsX11_isDead_X11 hown hK hP 0 rfl rfl 13 (by decide +kernel) (hts (.fieldLink RX11 49 "ShipOfficeModel" "known" "[I") iw_X11_isDead_5) (fun _ h9 => h9) rfl dX11_isDead_62 ?_
            refine lv_iload hx hb dX11_isDead_65 (lv_at hl 0 rfl) ?_
            refine va_iald hx hb hK hP 14 13 rfl rfl (vp_in_nI (by omega) (by decide +kernel)) dX11_isDead_67 ?_
            refine lv_iload_n hx hb dX11_isDead_68 rfl (lv_at hl 4 rfl) ?_
            refine lv_icmp_gt (tgt := 85) hx hb dX11_isDead_69 (by decide +kernel) (fun c_9 => ?_) (fun c_9 => ?_)
            · refine lv_iinc (v := nI (i + 1)) (lv' := [(4, .int (nI (i + 1))), (0, .ref g0), (1, .int x1), (2, .int x2), (3, .int x3)]) hx hb dX11_isDead_85 hl (k := 0) rfl (nI_1 i) (by decide +kernel) rfl (fun ls hl => ?_)
              refine lv_goto (tgt := 3) hx hb dX11_isDead_88 (by decide +kernel) ?_
              exact ih (i + 1) ls (by omega) (by omega) (lv_sub hl [0, 1, 2, 3, 4] rfl)
            · refine lv_aload_n hx hb dX11_isDead_72 rfl (lv_at hl 1 rfl) ?_
              refine va_get (D := (dC, dI)) (ci := 11) (v := .ref (pq 12)) (C := RX11) (T := TX11) (N := 63) hx hb hts in_wsX11_isDead_X11 hown hK hP 0 rfl rfl 12 (by decide +kernel) (hts (.fieldLink RX11 46 "ShipOfficeModel" "day" "[I") iw_X11_isDead_6) (fun _ h9 => h9) rfl dX11_isDead_73 ?_
              refine lv_iload hx hb dX11_isDead_76 (lv_at hl 0 rfl) ?_
              refine va_iald hx hb hK hP 13 12 rfl rfl (vp_in_nI (by omega) (by decide +kernel)) dX11_isDead_78 ?_
              refine lv_iload_n hx hb dX11_isDead_79 rfl (lv_at hl 3 rfl) ?_
              refine lv_icmp_gt (tgt := 85) hx hb dX11_isDead_80 (by decide +kernel) (fun c_10 => ?_) (fun c_10 => ?_)
              · refine lv_iinc (v := nI (i + 1)) (lv' := [(4, .int (nI (i + 1))), (0, .ref g0), (1, .int x1), (2, .int x2), (3, .int x3)]) hx hb dX11_isDead_85 hl (k := 0) rfl (nI_1 i) (by decide +kernel) rfl (fun ls hl => ?_)
                refine lv_goto (tgt := 3) hx hb dX11_isDead_88 (by decide +kernel) ?_
                exact ih (i + 1) ls (by omega) (by omega) (lv_sub hl [0, 1, 2, 3, 4] rfl)
              · refine lv_iconst (v := 1) hx hb dX11_isDead_83 (by decide +kernel) ?_
                exact W.zret (v := 1) hx hb hr rfl (fun t ht hW => ⟨⟨1, (), rfl, (Or.inr rfl), trivial⟩, hS.F ht⟩) hS.2.2 dX11_isDead_84
          · refine lv_aload_n hx hb dX11_isDead_34 rfl (lv_at hl 1 rfl) ?_
            refine va_get (D := (dC, dI)) (ci := 11) (v := .ref (pq 10)) (C := RX11) (T := TX11) (N := 63) hx hb hts in_wsX11_isDead_X11 hown hK hP 0 rfl rfl 10 (by decide +kernel) (hts (.fieldLink RX11 40 "ShipOfficeModel" "what" "[I") iw_X11_isDead_2) (fun _ h9 => h9) rfl dX11_isDead_35 ?_
            refine lv_iload hx hb dX11_isDead_38 (lv_at hl 0 rfl) ?_
            refine va_iald hx hb hK hP 11 10 rfl rfl (vp_in_nI (by omega) (by decide +kernel)) dX11_isDead_40 ?_
            refine lv_iconst (v := 2) hx hb dX11_isDead_41 (by decide +kernel) ?_
            refine lv_icmp_ne (tgt := 85) hx hb dX11_isDead_42 (by decide +kernel) (fun c_11 => ?_) (fun c_11 => ?_)
            · refine lv_iinc (v := nI (i + 1)) (lv' := [(4, .int (nI (i + 1))), (0, .ref g0), (1, .int x1), (2, .int x2), (3, .int x3)]) hx hb dX11_isDead_85 hl (k := 0) rfl (nI_1 i) (by decide +kernel) rfl (fun ls hl => ?_)
              refine lv_goto (tgt := 3) hx hb dX11_isDead_88 (by decide +kernel) ?_
              exact ih (i + 1) ls (by omega) (by omega) (lv_sub hl [0, 1, 2, 3, 4] rfl)
            · refine lv_aload_n hx hb dX11_isDead_45 rfl (lv_at hl 1 rfl) ?_
              refine va_get (D := (dC, dI)) (ci := 11) (v := .ref (pq 11)) (C := RX11) (T := TX11) (N := 63) hx hb hts in_wsX11_isDead_X11 hown hK hP 0 rfl rfl 11 (by decide +kernel) (hts (.fieldLink RX11 43 "ShipOfficeModel" "whose" "[I") iw_X11_isDead_3) (fun _ h9 => h9) rfl dX11_isDead_46 ?_
              refine lv_iload hx hb dX11_isDead_49 (lv_at hl 0 rfl) ?_
              refine va_iald hx hb hK hP 12 11 rfl rfl (vp_in_nI (by omega) (by decide +kernel)) dX11_isDead_51 ?_
              refine lv_aload_n hx hb dX11_isDead_52 rfl (lv_at hl 1 rfl) ?_
              refine va_get (D := (dC, dI)) (ci := 11) (v := .ref (pq 21)) (C := RX11) (T := TX11) (N := 63) hx hb hts in_wsX11_isDead_X11 hown hK hP 0 rfl rfl 21 (by decide +kernel) (hts (.fieldLink RX11 73 "ShipOfficeModel" "voyage" "[I") iw_X11_isDead_4) (fun _ h9 => h9) rfl dX11_isDead_53 ?_
              refine lv_iload_n hx hb dX11_isDead_56 rfl (lv_at hl 2 rfl) ?_
              refine va_iald hx hb hK hP 22 21 rfl rfl hx1 dX11_isDead_57 ?_
              refine lv_icmp_ne (tgt := 85) hx hb dX11_isDead_58 (by decide +kernel) (fun c_12 => ?_) (fun c_12 => ?_)
              · refine lv_iinc (v := nI (i + 1)) (lv' := [(4, .int (nI (i + 1))), (0, .ref g0), (1, .int x1), (2, .int x2), (3, .int x3)]) hx hb dX11_isDead_85 hl (k := 0) rfl (nI_1 i) (by decide +kernel) rfl (fun ls hl => ?_)
                refine lv_goto (tgt := 3) hx hb dX11_isDead_88 (by decide +kernel) ?_
                exact ih (i + 1) ls (by omega) (by omega) (lv_sub hl [0, 1, 2, 3, 4] rfl)
              · refine lv_aload_n hx hb dX11_isDead_61 rfl (lv_at hl 1 rfl) ?_
                refine va_get (D := (dC, dI)) (ci := 11) (v := .ref (pq 13)) (C := RX11) (T := TX11) (N := 63) hx hb hts in_wsX11_isDead_X11 hown hK hP 0 rfl rfl 13 (by decide +kernel) (hts (.fieldLink RX11 49 "ShipOfficeModel" "known" "[I") iw_X11_isDead_5) (fun _ h9 => h9) rfl dX11_isDead_62 ?_
                refine lv_iload hx hb dX11_isDead_65 (lv_at hl 0 rfl) ?_
                refine va_iald hx hb hK hP 14 13 rfl rfl (vp_in_nI (by omega) (by decide +kernel)) dX11_isDead_67 ?_
                refine lv_iload_n hx hb dX11_isDead_68 rfl (lv_at hl 4 rfl) ?_
                refine lv_icmp_gt (tgt := 85) hx hb dX11_isDead_69 (by decide +kernel) (fun c_13 => ?_) (fun c_13 => ?_)
                · refine lv_iinc (v := nI (i + 1)) (lv' := [(4, .int (nI (i + 1))), (0, .ref g0), (1, .int x1), (2, .int x2), (3, .int x3)]) hx hb dX11_isDead_85 hl (k := 0) rfl (nI_1 i) (by decide +kernel) rfl (fun ls hl => ?_)
                  refine lv_goto (tgt := 3) hx hb dX11_isDead_88 (by decide +kernel) ?_
                  exact ih (i + 1) ls (by omega) (by omega) (lv_sub hl [0, 1, 2, 3, 4] rfl)
                · refine lv_aload_n hx hb dX11_isDead_72 rfl (lv_at hl 1 rfl) ?_
                  refine va_get (D := (dC, dI)) (ci := 11) (v := .ref (pq 12)) (C := RX11) (T := TX11) (N := 63) hx hb hts in_wsX11_isDead_X11 hown hK hP 0 rfl rfl 12 (by decide +kernel) (hts (.fieldLink RX11 46 "ShipOfficeModel" "day" "[I") iw_X11_isDead_6) (fun _ h9 => h9) rfl dX11_isDead_73 ?_
                  refine lv_iload hx hb dX11_isDead_76 (lv_at hl 0 rfl) ?_
                  refine va_iald hx hb hK hP 13 12 rfl rfl (vp_in_nI (by omega) (by decide +kernel)) dX11_isDead_78 ?_
                  refine lv_iload_n hx hb dX11_isDead_79 rfl (lv_at hl 3 rfl) ?_
                  refine lv_icmp_gt (tgt := 85) hx hb dX11_isDead_80 (by decide +kernel) (fun c_14 => ?_) (fun c_14 => ?_)
                  · refine lv_iinc (v := nI (i + 1)) (lv' := [(4, .int (nI (i + 1))), (0, .ref g0), (1, .int x1), (2, .int x2), (3, .int x3)]) hx hb dX11_isDead_85 hl (k := 0) rfl (nI_1 i) (by decide +kernel) rfl (fun ls hl => ?_)
                    refine lv_goto (tgt := 3) hx hb dX11_isDead_88 (by decide +kernel) ?_
                    exact ih (i + 1) ls (by omega) (by omega) (lv_sub hl [0, 1, 2, 3, 4] rfl)
                  · refine lv_iconst (v := 1) hx hb dX11_isDead_83 (by decide +kernel) ?_
                    exact W.zret (v := 1) hx hb hr rfl (fun t ht hW => ⟨⟨1, (), rfl, (Or.inr rfl), trivial⟩, hS.F ht⟩) hS.2.2 dX11_isDead_84
  exact hloop nh 0 ls (by omega) (by omega) (lv_sub hl [0, 1, 2, 3, 4] rfl)
