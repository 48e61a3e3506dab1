abbrev cX11_goesOn : ByteArray := prog_13_method_14_code
def yX11_goesOn : MethodName := ⟨RX11, "goesOn", "(I)Z"⟩
abbrev cX11_hasSailed : ByteArray := prog_13_method_44_code
def yX11_hasSailed : MethodName := ⟨RX11, "hasSailed", "(III)Z"⟩
abbrev cX11_wrongTimes : ByteArray := prog_13_method_51_code
def yX11_wrongTimes : MethodName := ⟨RX11, "wrongTimes", "(II)I"⟩
abbrev cX11_endOf : ByteArray := prog_13_method_70_code
def yX11_endOf : MethodName := ⟨RX11, "endOf", "(I)I"⟩
abbrev cX11_isFree : ByteArray := prog_13_method_76_code
def yX11_isFree : MethodName := ⟨RX11, "isFree", "(I)Z"⟩
theorem gw_X11_wasTold : wsX11_wasTold.all goodWord = true := by decide +kernel
def wsX11_goesOn : List Cond := .code yX11_goesOn cX11_goesOn 2 (some .boolean) :: ([.fieldLink RX11 88 "ShipOfficeModel" "offOn" "[I", .fieldLink RX11 73 "ShipOfficeModel" "voyage" "[I", .methodLink RX11 182 yX11_wasTold, .instanceMethod yX11_wasTold, .selects RX11 yX11_wasTold yX11_wasTold, .initialized RX11, .code yX11_wasTold cX11_wasTold 4 (some .boolean), .fieldLink RX11 179 "ShipOfficeModel" "happened" "I", .fieldLink RX11 40 "ShipOfficeModel" "what" "[I", .fieldLink RX11 43 "ShipOfficeModel" "whose" "[I"] ++ wsX110)
theorem gw_X11_goesOn : wsX11_goesOn.all goodWord = true := by decide +kernel
theorem il_X11_goesOn_1 : ∀ w ∈ ([.fieldLink RX11 88 "ShipOfficeModel" "offOn" "[I", .fieldLink RX11 73 "ShipOfficeModel" "voyage" "[I", .methodLink RX11 182 yX11_wasTold, .instanceMethod yX11_wasTold, .selects RX11 yX11_wasTold yX11_wasTold, .initialized RX11, .code yX11_wasTold cX11_wasTold 4 (some .boolean), .fieldLink RX11 179 "ShipOfficeModel" "happened" "I", .fieldLink RX11 40 "ShipOfficeModel" "what" "[I", .fieldLink RX11 43 "ShipOfficeModel" "whose" "[I"] : List Cond), w ∈ wsX11_goesOn := fun w h => (List.mem_cons_of_mem _ (List.mem_append_left _ h))
theorem il_X11_goesOn_2 : ∀ w ∈ wsX110, w ∈ wsX11_goesOn := fun w h => (List.mem_cons_of_mem _ (List.mem_append_right _ h))
theorem iw_X11_goesOn_1 : Cond.fieldLink RX11 88 "ShipOfficeModel" "offOn" "[I" ∈ wsX11_goesOn := (mmI il_X11_goesOn_1 0 rfl)
theorem iw_X11_goesOn_2 : Cond.fieldLink RX11 73 "ShipOfficeModel" "voyage" "[I" ∈ wsX11_goesOn := (mmI il_X11_goesOn_1 1 rfl)
theorem gw_X11_sailedOn : wsX11_sailedOn.all goodWord = true := by decide +kernel
def wsX11_hasSailed : List Cond := .code yX11_hasSailed cX11_hasSailed 5 (some .boolean) :: ([.methodLink RX11 278 yX11_sailedOn, .instanceMethod yX11_sailedOn, .selects RX11 yX11_sailedOn yX11_sailedOn, .initialized RX11, .code yX11_sailedOn cX11_sailedOn 4 (some .int), .fieldLink RX11 179 "ShipOfficeModel" "happened" "I", .fieldLink RX11 40 "ShipOfficeModel" "what" "[I", .fieldLink RX11 43 "ShipOfficeModel" "whose" "[I", .fieldLink RX11 49 "ShipOfficeModel" "known" "[I", .fieldLink RX11 46 "ShipOfficeModel" "day" "[I"] ++ wsX110)
theorem il_X11_hasSailed_1 : ∀ w ∈ ([.methodLink RX11 278 yX11_sailedOn, .instanceMethod yX11_sailedOn, .selects RX11 yX11_sailedOn yX11_sailedOn, .initialized RX11, .code yX11_sailedOn cX11_sailedOn 4 (some .int), .fieldLink RX11 179 "ShipOfficeModel" "happened" "I", .fieldLink RX11 40 "ShipOfficeModel" "what" "[I", .fieldLink RX11 43 "ShipOfficeModel" "whose" "[I", .fieldLink RX11 49 "ShipOfficeModel" "known" "[I", .fieldLink RX11 46 "ShipOfficeModel" "day" "[I"] : List Cond), w ∈ wsX11_hasSailed := fun w h => (List.mem_cons_of_mem _ (List.mem_append_left _ h))
theorem il_X11_hasSailed_2 : ∀ w ∈ wsX110, w ∈ wsX11_hasSailed := fun w h => (List.mem_cons_of_mem _ (List.mem_append_right _ h))
def wsX11_wrongTimes : List Cond := .code yX11_wrongTimes cX11_wrongTimes 3 (some .int) :: ([.fieldLink RX11 171 "ShipOfficeModel" "now" "I"] ++ wsX110)
theorem il_X11_wrongTimes_1 : ∀ w ∈ ([.fieldLink RX11 171 "ShipOfficeModel" "now" "I"] : List Cond), w ∈ wsX11_wrongTimes := fun w h => (List.mem_cons_of_mem _ (List.mem_append_left _ h))
theorem iw_X11_wrongTimes_1 : Cond.fieldLink RX11 171 "ShipOfficeModel" "now" "I" ∈ wsX11_wrongTimes := (mmI il_X11_wrongTimes_1 0 rfl)
def wsX11_endOf : List Cond := .code yX11_endOf cX11_endOf 2 (some .int) :: ([.fieldLink RX11 88 "ShipOfficeModel" "offOn" "[I", .fieldLink RX11 171 "ShipOfficeModel" "now" "I"] ++ wsX110)
theorem il_X11_endOf_1 : ∀ w ∈ ([.fieldLink RX11 88 "ShipOfficeModel" "offOn" "[I", .fieldLink RX11 171 "ShipOfficeModel" "now" "I"] : List Cond), w ∈ wsX11_endOf := fun w h => (List.mem_cons_of_mem _ (List.mem_append_left _ h))
theorem iw_X11_endOf_1 : Cond.fieldLink RX11 88 "ShipOfficeModel" "offOn" "[I" ∈ wsX11_endOf := (mmI il_X11_endOf_1 0 rfl)
theorem iw_X11_endOf_2 : Cond.fieldLink RX11 171 "ShipOfficeModel" "now" "I" ∈ wsX11_endOf := (mmI il_X11_endOf_1 1 rfl)
def wsX11_isFree : List Cond := .code yX11_isFree cX11_isFree 3 (some .boolean) :: ([.fieldLink RX11 168 "ShipOfficeModel" "agreements" "I", .fieldLink RX11 70 "ShipOfficeModel" "man" "[I", .methodLink RX11 188 yX11_goesOn, .instanceMethod yX11_goesOn, .selects RX11 yX11_goesOn yX11_goesOn, .initialized RX11, .code yX11_goesOn cX11_goesOn 2 (some .boolean), .fieldLink RX11 88 "ShipOfficeModel" "offOn" "[I", .fieldLink RX11 73 "ShipOfficeModel" "voyage" "[I", .methodLink RX11 182 yX11_wasTold, .instanceMethod yX11_wasTold, .selects RX11 yX11_wasTold yX11_wasTold, .code yX11_wasTold cX11_wasTold 4 (some .boolean), .fieldLink RX11 179 "ShipOfficeModel" "happened" "I", .fieldLink RX11 40 "ShipOfficeModel" "what" "[I", .fieldLink RX11 43 "ShipOfficeModel" "whose" "[I"] ++ wsX110)
theorem il_X11_isFree_1 : ∀ w ∈ ([.fieldLink RX11 168 "ShipOfficeModel" "agreements" "I", .fieldLink RX11 70 "ShipOfficeModel" "man" "[I", .methodLink RX11 188 yX11_goesOn, .instanceMethod yX11_goesOn, .selects RX11 yX11_goesOn yX11_goesOn, .initialized RX11, .code yX11_goesOn cX11_goesOn 2 (some .boolean), .fieldLink RX11 88 "ShipOfficeModel" "offOn" "[I", .fieldLink RX11 73 "ShipOfficeModel" "voyage" "[I", .methodLink RX11 182 yX11_wasTold, .instanceMethod yX11_wasTold, .selects RX11 yX11_wasTold yX11_wasTold, .code yX11_wasTold cX11_wasTold 4 (some .boolean), .fieldLink RX11 179 "ShipOfficeModel" "happened" "I", .fieldLink RX11 40 "ShipOfficeModel" "what" "[I", .fieldLink RX11 43 "ShipOfficeModel" "whose" "[I"] : List Cond), w ∈ wsX11_isFree := fun w h => (List.mem_cons_of_mem _ (List.mem_append_left _ h))
theorem il_X11_isFree_2 : ∀ w ∈ wsX110, w ∈ wsX11_isFree := fun w h => (List.mem_cons_of_mem _ (List.mem_append_right _ h))
theorem iw_X11_isFree_1 : Cond.fieldLink RX11 168 "ShipOfficeModel" "agreements" "I" ∈ wsX11_isFree := (mmI il_X11_isFree_1 0 rfl)
theorem iw_X11_isFree_2 : Cond.fieldLink RX11 70 "ShipOfficeModel" "man" "[I" ∈ wsX11_isFree := (mmI il_X11_isFree_1 1 rfl)
set_option maxRecDepth 100000 in
theorem ggX11_goesOn_X11_wasTold : GoodIn wsX11_goesOn wsX11_wasTold := goodIn_sub (mmC (mmI il_X11_goesOn_1 6 rfl) (mmA (mmC (mmI il_X11_goesOn_1 7 rfl) (mmC (mmI il_X11_goesOn_1 8 rfl) (mmC (mmI il_X11_goesOn_1 9 rfl) mmN))) il_X11_goesOn_2)) gw_X11_wasTold
theorem gX11_goesOn_X11_wasTold : GoodIn wsX11_goesOn (wsV RX11 182 RX11 yX11_wasTold wsX11_wasTold) := goodIn_app (goodIn_sub (mmC (mmI il_X11_goesOn_1 2 rfl) (mmC (mmI il_X11_goesOn_1 3 rfl) (mmC (mmI il_X11_goesOn_1 4 rfl) (mmC (mmI il_X11_goesOn_1 5 rfl) mmN)))) (by decide +kernel)) ggX11_goesOn_X11_wasTold
theorem dX11_goesOn_0 : decode cX11_goesOn 0 = .ok (.aload_n 0, 1) := by decide +kernel
theorem dX11_goesOn_1 : decode cX11_goesOn 1 = .ok (.getfield 88, 3) := by decide +kernel
theorem dX11_goesOn_4 : decode cX11_goesOn 4 = .ok (.iload_n 1, 1) := by decide +kernel
theorem dX11_goesOn_5 : decode cX11_goesOn 5 = .ok (.iaload, 1) := by decide +kernel
theorem dX11_goesOn_6 : decode cX11_goesOn 6 = .ok (.ifCond .ge 30, 3) := by decide +kernel
theorem dX11_goesOn_9 : decode cX11_goesOn 9 = .ok (.aload_n 0, 1) := by decide +kernel
theorem dX11_goesOn_10 : decode cX11_goesOn 10 = .ok (.iconst 4, 1) := by decide +kernel
theorem dX11_goesOn_11 : decode cX11_goesOn 11 = .ok (.iload_n 1, 1) := by decide +kernel
theorem dX11_goesOn_12 : decode cX11_goesOn 12 = .ok (.invokevirtual 182, 3) := by decide +kernel
theorem dX11_goesOn_15 : decode cX11_goesOn 15 = .ok (.ifCond .ne 21, 3) := by decide +kernel
theorem dX11_goesOn_18 : decode cX11_goesOn 18 = .ok (.aload_n 0, 1) := by decide +kernel
theorem dX11_goesOn_19 : decode cX11_goesOn 19 = .ok (.iconst 2, 1) := by decide +kernel
theorem dX11_goesOn_20 : decode cX11_goesOn 20 = .ok (.aload_n 0, 1) := by decide +kernel
theorem dX11_goesOn_21 : decode cX11_goesOn 21 = .ok (.getfield 73, 3) := by decide +kernel
theorem dX11_goesOn_24 : decode cX11_goesOn 24 = .ok (.iload_n 1, 1) := by decide +kernel
theorem dX11_goesOn_25 : decode cX11_goesOn 25 = .ok (.iaload, 1) := by decide +kernel
theorem dX11_goesOn_26 : decode cX11_goesOn 26 = .ok (.invokevirtual 182, 3) := by decide +kernel
theorem dX11_goesOn_29 : decode cX11_goesOn 29 = .ok (.ifCond .ne 7, 3) := by decide +kernel
theorem dX11_goesOn_32 : decode cX11_goesOn 32 = .ok (.iconst 1, 1) := by decide +kernel
theorem dX11_goesOn_33 : decode cX11_goesOn 33 = .ok (.goto 4, 3) := by decide +kernel
theorem dX11_goesOn_36 : decode cX11_goesOn 36 = .ok (.iconst 0, 1) := by decide +kernel
theorem dX11_goesOn_37 : decode cX11_goesOn 37 = .ok (.ireturn, 1) := by decide +kernel
set_option maxRecDepth 100000 in
theorem ggX11_hasSailed_X11_sailedOn : GoodIn wsX11_hasSailed wsX11_sailedOn := goodIn_sub (mmC (mmI il_X11_hasSailed_1 4 rfl) (mmA (mmC (mmI il_X11_hasSailed_1 5 rfl) (mmC (mmI il_X11_hasSailed_1 6 rfl) (mmC (mmI il_X11_hasSailed_1 7 rfl) (mmC (mmI il_X11_hasSailed_1 8 rfl) (mmC (mmI il_X11_hasSailed_1 9 rfl) mmN))))) il_X11_hasSailed_2)) gw_X11_sailedOn
theorem gX11_hasSailed_X11_sailedOn : GoodIn wsX11_hasSailed (wsV RX11 278 RX11 yX11_sailedOn wsX11_sailedOn) := goodIn_app (goodIn_sub (mmC (mmI il_X11_hasSailed_1 0 rfl) (mmC (mmI il_X11_hasSailed_1 1 rfl) (mmC (mmI il_X11_hasSailed_1 2 rfl) (mmC (mmI il_X11_hasSailed_1 3 rfl) mmN)))) (by decide +kernel)) ggX11_hasSailed_X11_sailedOn
theorem dX11_hasSailed_0 : decode cX11_hasSailed 0 = .ok (.aload_n 0, 1) := by decide +kernel
theorem dX11_hasSailed_1 : decode cX11_hasSailed 1 = .ok (.iload_n 1, 1) := by decide +kernel
theorem dX11_hasSailed_2 : decode cX11_hasSailed 2 = .ok (.iload_n 3, 1) := by decide +kernel
theorem dX11_hasSailed_3 : decode cX11_hasSailed 3 = .ok (.invokevirtual 278, 3) := by decide +kernel
theorem dX11_hasSailed_6 : decode cX11_hasSailed 6 = .ok (.istore 4, 2) := by decide +kernel
theorem dX11_hasSailed_8 : decode cX11_hasSailed 8 = .ok (.iload 4, 2) := by decide +kernel
theorem dX11_hasSailed_10 : decode cX11_hasSailed 10 = .ok (.ifCond .lt 13, 3) := by decide +kernel
theorem dX11_hasSailed_13 : decode cX11_hasSailed 13 = .ok (.iload 4, 2) := by decide +kernel
theorem dX11_hasSailed_15 : decode cX11_hasSailed 15 = .ok (.iload_n 2, 1) := by decide +kernel
theorem dX11_hasSailed_16 : decode cX11_hasSailed 16 = .ok (.if_icmp .gt 7, 3) := by decide +kernel
theorem dX11_hasSailed_19 : decode cX11_hasSailed 19 = .ok (.iconst 1, 1) := by decide +kernel
theorem dX11_hasSailed_20 : decode cX11_hasSailed 20 = .ok (.goto 4, 3) := by decide +kernel
theorem dX11_hasSailed_23 : decode cX11_hasSailed 23 = .ok (.iconst 0, 1) := by decide +kernel
theorem dX11_hasSailed_24 : decode cX11_hasSailed 24 = .ok (.ireturn, 1) := by decide +kernel
theorem dX11_wrongTimes_0 : decode cX11_wrongTimes 0 = .ok (.iload_n 1, 1) := by decide +kernel
theorem dX11_wrongTimes_1 : decode cX11_wrongTimes 1 = .ok (.ifCond .lt 7, 3) := by decide +kernel
theorem dX11_wrongTimes_4 : decode cX11_wrongTimes 4 = .ok (.iload_n 2, 1) := by decide +kernel
theorem dX11_wrongTimes_5 : decode cX11_wrongTimes 5 = .ok (.ifCond .ge 8, 3) := by decide +kernel
theorem dX11_wrongTimes_8 : decode cX11_wrongTimes 8 = .ok (.bipush (-4), 2) := by decide +kernel
theorem dX11_wrongTimes_10 : decode cX11_wrongTimes 10 = .ok (.goto 22, 3) := by decide +kernel
theorem dX11_wrongTimes_13 : decode cX11_wrongTimes 13 = .ok (.iload_n 1, 1) := by decide +kernel
theorem dX11_wrongTimes_14 : decode cX11_wrongTimes 14 = .ok (.iload_n 2, 1) := by decide +kernel
theorem dX11_wrongTimes_15 : decode cX11_wrongTimes 15 = .ok (.if_icmp .gt 11, 3) := by decide +kernel
theorem dX11_wrongTimes_18 : decode cX11_wrongTimes 18 = .ok (.iload_n 2, 1) := by decide +kernel
theorem dX11_wrongTimes_19 : decode cX11_wrongTimes 19 = .ok (.aload_n 0, 1) := by decide +kernel
theorem dX11_wrongTimes_20 : decode cX11_wrongTimes 20 = .ok (.getfield 171, 3) := by decide +kernel
theorem dX11_wrongTimes_23 : decode cX11_wrongTimes 23 = .ok (.if_icmp .le 8, 3) := by decide +kernel
theorem dX11_wrongTimes_26 : decode cX11_wrongTimes 26 = .ok (.bipush (-3), 2) := by decide +kernel
theorem dX11_wrongTimes_28 : decode cX11_wrongTimes 28 = .ok (.goto 4, 3) := by decide +kernel
theorem dX11_wrongTimes_31 : decode cX11_wrongTimes 31 = .ok (.iconst 0, 1) := by decide +kernel
theorem dX11_wrongTimes_32 : decode cX11_wrongTimes 32 = .ok (.ireturn, 1) := by decide +kernel
theorem dX11_endOf_0 : decode cX11_endOf 0 = .ok (.aload_n 0, 1) := by decide +kernel
theorem dX11_endOf_1 : decode cX11_endOf 1 = .ok (.getfield 88, 3) := by decide +kernel
theorem dX11_endOf_4 : decode cX11_endOf 4 = .ok (.iload_n 1, 1) := by decide +kernel
theorem dX11_endOf_5 : decode cX11_endOf 5 = .ok (.iaload, 1) := by decide +kernel
theorem dX11_endOf_6 : decode cX11_endOf 6 = .ok (.ifCond .ge 10, 3) := by decide +kernel
theorem dX11_endOf_9 : decode cX11_endOf 9 = .ok (.aload_n 0, 1) := by decide +kernel
theorem dX11_endOf_10 : decode cX11_endOf 10 = .ok (.getfield 171, 3) := by decide +kernel
theorem dX11_endOf_13 : decode cX11_endOf 13 = .ok (.goto 9, 3) := by decide +kernel
theorem dX11_endOf_16 : decode cX11_endOf 16 = .ok (.aload_n 0, 1) := by decide +kernel
theorem dX11_endOf_17 : decode cX11_endOf 17 = .ok (.getfield 88, 3) := by decide +kernel
theorem dX11_endOf_20 : decode cX11_endOf 20 = .ok (.iload_n 1, 1) := by decide +kernel
theorem dX11_endOf_21 : decode cX11_endOf 21 = .ok (.iaload, 1) := by decide +kernel
theorem dX11_endOf_22 : decode cX11_endOf 22 = .ok (.ireturn, 1) := by decide +kernel
set_option maxRecDepth 100000 in
theorem ggX11_isFree_X11_goesOn : GoodIn wsX11_isFree wsX11_goesOn := goodIn_sub (mmC (mmI il_X11_isFree_1 6 rfl) (mmA (mmC (mmI il_X11_isFree_1 7 rfl) (mmC (mmI il_X11_isFree_1 8 rfl) (mmC (mmI il_X11_isFree_1 9 rfl) (mmC (mmI il_X11_isFree_1 10 rfl) (mmC (mmI il_X11_isFree_1 11 rfl) (mmC (mmI il_X11_isFree_1 5 rfl) (mmC (mmI il_X11_isFree_1 12 rfl) (mmC (mmI il_X11_isFree_1 13 rfl) (mmC (mmI il_X11_isFree_1 14 rfl) (mmC (mmI il_X11_isFree_1 15 rfl) mmN)))))))))) il_X11_isFree_2)) gw_X11_goesOn
theorem gX11_isFree_X11_goesOn : GoodIn wsX11_isFree (wsV RX11 188 RX11 yX11_goesOn wsX11_goesOn) := goodIn_app (goodIn_sub (mmC (mmI il_X11_isFree_1 2 rfl) (mmC (mmI il_X11_isFree_1 3 rfl) (mmC (mmI il_X11_isFree_1 4 rfl) (mmC (mmI il_X11_isFree_1 5 rfl) mmN)))) (by decide +kernel)) ggX11_isFree_X11_goesOn
theorem dX11_isFree_0 : decode cX11_isFree 0 = .ok (.iconst 0, 1) := by decide +kernel
theorem dX11_isFree_1 : decode cX11_isFree 1 = .ok (.istore_n 2, 1) := by decide +kernel
theorem dX11_isFree_2 : decode cX11_isFree 2 = .ok (.iload_n 2, 1) := by decide +kernel
theorem dX11_isFree_3 : decode cX11_isFree 3 = .ok (.aload_n 0, 1) := by decide +kernel
theorem dX11_isFree_4 : decode cX11_isFree 4 = .ok (.getfield 168, 3) := by decide +kernel
theorem dX11_isFree_7 : decode cX11_isFree 7 = .ok (.if_icmp .ge 29, 3) := by decide +kernel
theorem dX11_isFree_10 : decode cX11_isFree 10 = .ok (.aload_n 0, 1) := by decide +kernel
theorem dX11_isFree_11 : decode cX11_isFree 11 = .ok (.getfield 70, 3) := by decide +kernel
theorem dX11_isFree_14 : decode cX11_isFree 14 = .ok (.iload_n 2, 1) := by decide +kernel
theorem dX11_isFree_15 : decode cX11_isFree 15 = .ok (.iaload, 1) := by decide +kernel
theorem dX11_isFree_16 : decode cX11_isFree 16 = .ok (.iload_n 1, 1) := by decide +kernel
theorem dX11_isFree_17 : decode cX11_isFree 17 = .ok (.if_icmp .ne 13, 3) := by decide +kernel
theorem dX11_isFree_20 : decode cX11_isFree 20 = .ok (.aload_n 0, 1) := by decide +kernel
theorem dX11_isFree_21 : decode cX11_isFree 21 = .ok (.iload_n 2, 1) := by decide +kernel
theorem dX11_isFree_22 : decode cX11_isFree 22 = .ok (.invokevirtual 188, 3) := by decide +kernel
theorem dX11_isFree_25 : decode cX11_isFree 25 = .ok (.ifCond .eq 5, 3) := by decide +kernel
theorem dX11_isFree_28 : decode cX11_isFree 28 = .ok (.iconst 0, 1) := by decide +kernel
theorem dX11_isFree_29 : decode cX11_isFree 29 = .ok (.ireturn, 1) := by decide +kernel
theorem dX11_isFree_30 : decode cX11_isFree 30 = .ok (.iinc 2 1, 3) := by decide +kernel
theorem dX11_isFree_33 : decode cX11_isFree 33 = .ok (.goto (-31), 3) := by decide +kernel
theorem dX11_isFree_36 : decode cX11_isFree 36 = .ok (.iconst 1, 1) := by decide +kernel
theorem dX11_isFree_37 : decode cX11_isFree 37 = .ok (.ireturn, 1) := by decide +kernel
theorem in_wsX11_goesOn_X11 : ∀ w ∈ wsX110, w ∈ wsX11_goesOn := fun w h => List.mem_cons_of_mem _ (List.mem_append_right _ h)
theorem in_wsX11_wrongTimes_X11 : ∀ w ∈ wsX110, w ∈ wsX11_wrongTimes := fun w h => List.mem_cons_of_mem _ (List.mem_append_right _ h)
theorem in_wsX11_endOf_X11 : ∀ w ∈ wsX110, w ∈ wsX11_endOf := fun w h => List.mem_cons_of_mem _ (List.mem_append_right _ h)
theorem in_wsX11_isFree_X11 : ∀ w ∈ wsX110, w ∈ wsX11_isFree := fun w h => List.mem_cons_of_mem _ (List.mem_append_right _ h)

set_option maxHeartbeats 4000000 in
set_option maxRecDepth 100000 in
theorem c_X11_hasSailed (l : Launch) (dC : Nat → ClassId) (dI : Nat → Nat → Nat) (sz : Nat) (g0 : Nat) (pq : Nat → Nat) (cp : Nat → ClassId) (v : Nat → Int32) (fa : Nat → Nat → Int32) (nh : Nat) (hnh : nh ≤ 200) (eh : v 41 = nI nh) (hday : ∀ i, i < nh → 0 ≤ (fa 12 i).toInt ∧ (fa 12 i).toInt ≤ 3000) (x1 x2 x3 : Int32) : Met l yX11_hasSailed wsX11_hasSailed ({ frames := 1, cells := 0, slots := 0, locals := 23 }) (va_Pc [.ref g0, .int x1, .int x2, .int x3] (pcW (dC, dI) (mT cp) (mW g0 pq cp v fa) sz)) (va_Qi (fun (r : Int32) (u : Unit) => r = 0 ∨ r = 1) (fun _ _ => True) (va_A [] sz)) 0 0 (va_A [] sz) := by
  refine Met.ofW (cc := cX11_hasSailed) (maxL := 5) (ret := (some .boolean)) (by decide +kernel) rfl ?_
  intro p e s m args below meth c s₁ B hml hv
  obtain ⟨rfl, hsz, hP, hK, hD0⟩ := hv
  have hx := B.exec
  have hb := B.bytes
  have hr := B.returns
  have hts := atoms_spec (ws := wsX11_hasSailed) B.pre
  have hown : s.vm.findClass RX11 = some m.cls := findClass_of_methodNamed B.named
  have hlocks := B.notSynchronized
  subst hsz
  have hD := hD0
  generalize hAe : va_A [] s.heap.size = A at ⊢
  have hA : ∀ q : Nat, s.heap.size ≤ q → A q := fun q h => by rw [← hAe]; exact Or.inr h
  have hS : va_S A s.heap s.heap [] := va_S.rf
  have hP : va_P (dC, dI) vwCl (mW g0 pq cp v fa) s.heap := hP
  have hl := lv_entry ([.ref g0, .int x1, .int x2, .int x3]) (n := 5) (Nat.le_of_ble_eq_true rfl)
  rw [lg_entry_eq]
  generalize (lg_sl ([.ref g0, .int x1, .int x2, .int x3]) ++ List.replicate (5 - (lg_sl ([.ref g0, .int x1, .int x2, .int x3])).length) Slot.unset).toArray = ls at hl ⊢
  have hl : lv_has ls 5 [(0, .ref g0), (1, .int x1), (2, .int x2), (3, .int x3)] := hl
  refine lv_aload_n hx hb dX11_hasSailed_0 rfl (lv_at hl 0 rfl) ?_
  refine lv_iload_n hx hb dX11_hasSailed_1 rfl (lv_at hl 1 rfl) ?_
  refine lv_iload_n hx hb dX11_hasSailed_2 rfl (lv_at hl 3 rfl) ?_
  have hFc : ∀ q, va_A [] s.heap.size q → A q := pu_free hS hA
  refine va_calli (va_runV (As := [.int x1, .int x3]) (rest := []) ⟨hx, hb, hml, hown, hts⟩ (c_X11_sailedOn l dC dI s.heap.size g0 pq cp v fa nh hnh eh hday x1 x3) (cwV 2 hts gX11_hasSailed_X11_sailedOn rfl rfl rfl (by decide +kernel) ⟨(Nat.le_of_ble_eq_true rfl), (Nat.le_of_ble_eq_true rfl)⟩) (pr_V (r := (RX11, TX11, 63)) hP hK hD 0 11 rfl rfl) rfl rfl hl.1 rfl (lv_room (Nat.le_of_ble_eq_true rfl)) dX11_hasSailed_3 ⟨(Nat.le_of_ble_eq_true rfl), (Nat.le_of_ble_eq_true rfl)⟩) hS (fun q _ h => hFc q h) hFc (fun r_2 u t H locs ht hvm w_1 hB hz1 hk1 hS => ?_)
  have hP := pu_keep hP hk1
  clear hk1 hz1 hvm hB ht hFc
  refine lv_istore (lv' := [(4, .int r_2), (0, .ref g0), (1, .int x1), (2, .int x2), (3, .int x3)]) hx hb dX11_hasSailed_6 hl (by decide +kernel) rfl (fun ls hl => ?_)
  refine lv_iload hx hb dX11_hasSailed_8 (lv_at hl 0 rfl) ?_
  refine lv_if_lt (tgt := 23) hx hb dX11_hasSailed_10 (by decide +kernel) (fun c_3 => ?_) (fun c_3 => ?_)
  · refine lv_iconst (v := 0) hx hb dX11_hasSailed_23 (by decide +kernel) ?_
    exact W.zret (v := 0) hx hb hr rfl (fun t ht hW => ⟨⟨0, (), rfl, (Or.inl rfl), trivial⟩, hS.F ht⟩) hS.2.2 dX11_hasSailed_24
  · refine lv_iload hx hb dX11_hasSailed_13 (lv_at hl 0 rfl) ?_
    refine lv_iload_n hx hb dX11_hasSailed_15 rfl (lv_at hl 3 rfl) ?_
    refine lv_icmp_gt (tgt := 23) hx hb dX11_hasSailed_16 (by decide +kernel) (fun c_4 => ?_) (fun c_4 => ?_)
    · refine lv_iconst (v := 0) hx hb dX11_hasSailed_23 (by decide +kernel) ?_
      exact W.zret (v := 0) hx hb hr rfl (fun t ht hW => ⟨⟨0, (), rfl, (Or.inl rfl), trivial⟩, hS.F ht⟩) hS.2.2 dX11_hasSailed_24
    · refine lv_iconst (v := 1) hx hb dX11_hasSailed_19 (by decide +kernel) ?_
      refine lv_goto (tgt := 24) hx hb dX11_hasSailed_20 (by decide +kernel) ?_
      exact W.zret (v := 1) hx hb hr rfl (fun t ht hW => ⟨⟨1, (), rfl, (Or.inr rfl), trivial⟩, hS.F ht⟩) hS.2.2 dX11_hasSailed_24
set_option maxHeartbeats 4000000 in
set_option maxRecDepth 100000 in
theorem c_X11_goesOn (l : Launch) (dC : Nat → ClassId) (dI : Nat → Nat → Nat) (sz : Nat) (g0 : Nat) (pq : Nat → Nat) (cp : Nat → ClassId) (v : Nat → Int32) (fa : Nat → Nat → Int32) (nh : Nat) (hnh : nh ≤ 200) (eh : v 41 = nI nh) (x1 : Int32) (hx1 : vp_in x1 60) : Met l yX11_goesOn wsX11_goesOn ({ frames := 1, cells := 0, slots := 0, locals := 23 }) (va_Pc [.ref g0, .int x1] (pcW (dC, dI) (mT cp) (mW g0 pq cp v fa) sz)) (va_Qi (fun (r : Int32) (u : Unit) => r = 0 ∨ r = 1) (fun _ _ => True) (va_A [] sz)) 0 0 (va_A [] sz) := by
  refine Met.ofW (cc := cX11_goesOn) (maxL := 2) (ret := (some .boolean)) (by decide +kernel) rfl ?_
  intro p e s m args below meth c s₁ B hml hv
  obtain ⟨rfl, hsz, hP, hK, hD0⟩ := hv
  have hx := B.exec
  have hb := B.bytes
  have hr := B.returns
  have hts := atoms_spec (ws := wsX11_goesOn) B.pre
  have hown : s.vm.findClass RX11 = some m.cls := findClass_of_methodNamed B.named
  have hlocks := B.notSynchronized
  subst hsz
  have hD := hD0
  generalize hAe : va_A [] s.heap.size = A at ⊢
  have hA : ∀ q : Nat, s.heap.size ≤ q → A q := fun q h => by rw [← hAe]; exact Or.inr h
  have hS : va_S A s.heap s.heap [] := va_S.rf
  have hP : va_P (dC, dI) vwCl (mW g0 pq cp v fa) s.heap := hP
  have hl := lv_entry ([.ref g0, .int x1]) (n := 2) (Nat.le_of_ble_eq_true rfl)
  rw [lg_entry_eq]
  generalize (lg_sl ([.ref g0, .int x1]) ++ List.replicate (2 - (lg_sl ([.ref g0, .int x1])).length) Slot.unset).toArray = ls at hl ⊢
  have hl : lv_has ls 2 [(0, .ref g0), (1, .int x1)] := hl
  refine lv_aload_n hx hb dX11_goesOn_0 rfl (lv_at hl 0 rfl) ?_
  refine va_get (D := (dC, dI)) (ci := 11) (v := .ref (pq 26)) (C := RX11) (T := TX11) (N := 63) hx hb hts in_wsX11_goesOn_X11 hown hK hP 0 rfl rfl 26 (by decide +kernel) (hts (.fieldLink RX11 88 "ShipOfficeModel" "offOn" "[I") iw_X11_goesOn_1) (fun _ h9 => h9) rfl dX11_goesOn_1 ?_
  refine lv_iload_n hx hb dX11_goesOn_4 rfl (lv_at hl 1 rfl) ?_
  refine va_iald hx hb hK hP 27 26 rfl rfl hx1 dX11_goesOn_5 ?_
  refine lv_if_ge (tgt := 36) hx hb dX11_goesOn_6 (by decide +kernel) (fun c_1 => ?_) (fun c_1 => ?_)
  · refine lv_iconst (v := 0) hx hb dX11_goesOn_36 (by decide +kernel) ?_
    exact W.zret (v := 0) hx hb hr rfl (fun t ht hW => ⟨⟨0, (), rfl, (Or.inl rfl), trivial⟩, hS.F ht⟩) hS.2.2 dX11_goesOn_37
  · refine lv_aload_n hx hb dX11_goesOn_9 rfl (lv_at hl 0 rfl) ?_
    refine lv_iconst (v := 4) hx hb dX11_goesOn_10 (by decide +kernel) ?_
    refine lv_iload_n hx hb dX11_goesOn_11 rfl (lv_at hl 1 rfl) ?_
    have hFc : ∀ q, va_A [] s.heap.size q → A q := pu_free hS hA
    refine va_calli (va_runV (As := [.int 4, .int x1]) (rest := []) ⟨hx, hb, hml, hown, hts⟩ (c_X11_wasTold l dC dI s.heap.size g0 pq cp v fa nh hnh eh 4 x1) (cwV 2 hts gX11_goesOn_X11_wasTold rfl rfl rfl (by decide +kernel) ⟨(Nat.le_of_ble_eq_true rfl), (Nat.le_of_ble_eq_true rfl)⟩) (pr_V (r := (RX11, TX11, 63)) hP hK hD 0 11 rfl rfl) rfl rfl hl.1 rfl (lv_room (Nat.le_of_ble_eq_true rfl)) dX11_goesOn_12 ⟨(Nat.le_of_ble_eq_true rfl), (Nat.le_of_ble_eq_true rfl)⟩) hS (fun q _ h => hFc q h) hFc (fun r_3 u t H locs ht hvm w_2 hB hz1 hk1 hS => ?_)
    have hP := pu_keep hP hk1
    clear hk1 hz1 hvm hB ht hFc
    refine lv_if_ne (tgt := 36) hx hb dX11_goesOn_15 (by decide +kernel) (fun c_4 => ?_) (fun c_4 => ?_)
    · refine lv_iconst (v := 0) hx hb dX11_goesOn_36 (by decide +kernel) ?_
      exact W.zret (v := 0) hx hb hr rfl (fun t ht hW => ⟨⟨0, (), rfl, (Or.inl rfl), trivial⟩, hS.F ht⟩) hS.2.2 dX11_goesOn_37
    · refine lv_aload_n hx hb dX11_goesOn_18 rfl (lv_at hl 0 rfl) ?_
      refine lv_iconst (v := 2) hx hb dX11_goesOn_19 (by decide +kernel) ?_
      refine lv_aload_n hx hb dX11_goesOn_20 rfl (lv_at hl 0 rfl) ?_
      refine va_get (D := (dC, dI)) (ci := 11) (v := .ref (pq 21)) (C := RX11) (T := TX11) (N := 63) hx hb hts in_wsX11_goesOn_X11 hown hK hP 0 rfl rfl 21 (by decide +kernel) (hts (.fieldLink RX11 73 "ShipOfficeModel" "voyage" "[I") iw_X11_goesOn_2) (fun _ h9 => h9) rfl dX11_goesOn_21 ?_
      refine lv_iload_n hx hb dX11_goesOn_24 rfl (lv_at hl 1 rfl) ?_
      refine va_iald hx hb hK hP 22 21 rfl rfl hx1 dX11_goesOn_25 ?_
      have hFc : ∀ q, va_A [] H.size q → A q := pu_free hS hA
      refine va_calli (va_runV (As := [.int 2, .int (fa 21 (x1 : Int32).toNatClampNeg)]) (rest := []) ⟨hx, hb, hml, hown, hts⟩ (c_X11_wasTold l dC dI H.size g0 pq cp v fa nh hnh eh 2 (fa 21 (x1 : Int32).toNatClampNeg)) (cwV 2 hts gX11_goesOn_X11_wasTold rfl rfl rfl (by decide +kernel) ⟨(Nat.le_of_ble_eq_true rfl), (Nat.le_of_ble_eq_true rfl)⟩) (pr_V (r := (RX11, TX11, 63)) hP hK hD 0 11 rfl rfl) rfl rfl hl.1 rfl (lv_room (Nat.le_of_ble_eq_true rfl)) dX11_goesOn_26 ⟨(Nat.le_of_ble_eq_true rfl), (Nat.le_of_ble_eq_true rfl)⟩) hS (fun q _ h => hFc q h) hFc (fun r_6 u t H locs ht hvm w_5 hB hz1 hk1 hS => ?_)
      have hP := pu_keep hP hk1
      clear hk1 hz1 hvm hB ht hFc
      refine lv_if_ne (tgt := 36) hx hb dX11_goesOn_29 (by decide +kernel) (fun c_7 => ?_) (fun c_7 => ?_)
      · refine lv_iconst (v := 0) hx hb dX11_goesOn_36 (by decide +kernel) ?_
        exact W.zret (v := 0) hx hb hr rfl (fun t ht hW => ⟨⟨0, (), rfl, (Or.inl rfl), trivial⟩, hS.F ht⟩) hS.2.2 dX11_goesOn_37
      · refine lv_iconst (v := 1) hx hb dX11_goesOn_32 (by decide +kernel) ?_
        refine lv_goto (tgt := 37) hx hb dX11_goesOn_33 (by decide +kernel) ?_
        exact W.zret (v := 1) hx hb hr rfl (fun t ht hW => ⟨⟨1, (), rfl, (Or.inr rfl), trivial⟩, hS.F ht⟩) hS.2.2 dX11_goesOn_37
set_option maxHeartbeats 4000000 in
set_option maxRecDepth 100000 in
theorem c_X11_endOf (l : Launch) (dC : Nat → ClassId) (dI : Nat → Nat → Nat) (sz : Nat) (g0 : Nat) (pq : Nat → Nat) (cp : Nat → ClassId) (v : Nat → Int32) (fa : Nat → Nat → Int32) (x1 : Int32) (hx1 : vp_in x1 60) : Met l yX11_endOf wsX11_endOf ({ frames := 0, cells := 0, slots := 0, locals := 0 }) (va_Pc [.ref g0, .int x1] (pcW (dC, dI) (mT cp) (mW g0 pq cp v fa) sz)) (va_Qi (fun (r : Int32) (u : Unit) => True) (fun _ _ => True) (va_A [] sz)) 0 0 (va_A [] sz) := by
  refine Met.ofW (cc := cX11_endOf) (maxL := 2) (ret := (some .int)) (by decide +kernel) rfl ?_
  intro p e s m args below meth c s₁ B hml hv
  obtain ⟨rfl, hsz, hP, hK, hD0⟩ := hv
  have hx := B.exec
  have hb := B.bytes
  have hr := B.returns
  have hts := atoms_spec (ws := wsX11_endOf) B.pre
  have hown : s.vm.findClass RX11 = some m.cls := findClass_of_methodNamed B.named
  have hlocks := B.notSynchronized
  subst hsz
  have hD := hD0
  generalize hAe : va_A [] s.heap.size = A at ⊢
  have hA : ∀ q : Nat, s.heap.size ≤ q → A q := fun q h => by rw [← hAe]; exact Or.inr h
  have hS : va_S A s.heap s.heap [] := va_S.rf
  have hP : va_P (dC, dI) vwCl (mW g0 pq cp v fa) s.heap := hP
  have hl := lv_entry ([.ref g0, .int x1]) (n := 2) (Nat.le_of_ble_eq_true rfl)
  rw [lg_entry_eq]
  generalize (lg_sl ([.ref g0, .int x1]) ++ List.replicate (2 - (lg_sl ([.ref g0, .int x1])).length) Slot.unset).toArray = ls at hl ⊢
  have hl : lv_has ls 2 [(0, .ref g0), (1, .int x1)] := hl
  refine lv_aload_n hx hb dX11_endOf_0 rfl (lv_at hl 0 rfl) ?_
  refine va_get (D := (dC, dI)) (ci := 11) (v := .ref (pq 26)) (C := RX11) (T := TX11) (N := 63) hx hb hts in_wsX11_endOf_X11 hown hK hP 0 rfl rfl 26 (by decide +kernel) (hts (.fieldLink RX11 88 "ShipOfficeModel" "offOn" "[I") iw_X11_endOf_1) (fun _ h9 => h9) rfl dX11_endOf_1 ?_
  refine lv_iload_n hx hb dX11_endOf_4 rfl (lv_at hl 1 rfl) ?_
  refine va_iald hx hb hK hP 27 26 rfl rfl hx1 dX11_endOf_5 ?_
  refine lv_if_ge (tgt := 16) hx hb dX11_endOf_6 (by decide +kernel) (fun c_1 => ?_) (fun c_1 => ?_)
  · refine lv_aload_n hx hb dX11_endOf_16 rfl (lv_at hl 0 rfl) ?_
    refine va_get (D := (dC, dI)) (ci := 11) (v := .ref (pq 26)) (C := RX11) (T := TX11) (N := 63) hx hb hts in_wsX11_endOf_X11 hown hK hP 0 rfl rfl 26 (by decide +kernel) (hts (.fieldLink RX11 88 "ShipOfficeModel" "offOn" "[I") iw_X11_endOf_1) (fun _ h9 => h9) rfl dX11_endOf_17 ?_
    refine lv_iload_n hx hb dX11_endOf_20 rfl (lv_at hl 1 rfl) ?_
    refine va_iald hx hb hK hP 27 26 rfl rfl hx1 dX11_endOf_21 ?_
    exact W.iret (v := (fa 26 (x1 : Int32).toNatClampNeg)) hx hb hr (fun t ht hW => ⟨⟨(fa 26 (x1 : Int32).toNatClampNeg), (), rfl, trivial, trivial⟩, hS.F ht⟩) hS.2.2 dX11_endOf_22
  · refine lv_aload_n hx hb dX11_endOf_9 rfl (lv_at hl 0 rfl) ?_
    refine va_get (D := (dC, dI)) (ci := 11) (v := .int (v 38)) (C := RX11) (T := TX11) (N := 63) hx hb hts in_wsX11_endOf_X11 hown hK hP 0 rfl rfl 38 (by decide +kernel) (hts (.fieldLink RX11 171 "ShipOfficeModel" "now" "I") iw_X11_endOf_2) (fun _ h9 => h9) rfl dX11_endOf_10 ?_
    refine lv_goto (tgt := 22) hx hb dX11_endOf_13 (by decide +kernel) ?_
    exact W.iret (v := (v 38)) hx hb hr (fun t ht hW => ⟨⟨(v 38), (), rfl, trivial, trivial⟩, hS.F ht⟩) hS.2.2 dX11_endOf_22
set_option maxHeartbeats 4000000 in
set_option maxRecDepth 100000 in
theorem c_X11_isFree (l : Launch) (dC : Nat → ClassId) (dI : Nat → Nat → Nat) (sz : Nat) (g0 : Nat) (pq : Nat → Nat) (cp : Nat → ClassId) (v : Nat → Int32) (fa : Nat → Nat → Int32) (nh : Nat) (hnh : nh ≤ 200) (eh : v 41 = nI nh) (ng : Nat) (hng : ng ≤ 60) (eg : v 43 = nI ng) (x1 : Int32) : Met l yX11_isFree wsX11_isFree ({ frames := 2, cells := 0, slots := 0, locals := 44 }) (va_Pc [.ref g0, .int x1] (pcW (dC, dI) (mT cp) (mW g0 pq cp v fa) sz)) (va_Qi (fun (r : Int32) (u : Unit) => r = 0 ∨ r = 1) (fun _ _ => True) (va_A [] sz)) 0 0 (va_A [] sz) := by
  refine Met.ofW (cc := cX11_isFree) (maxL := 3) (ret := (some .boolean)) (by decide +kernel) rfl ?_
  intro p e s m args below meth c s₁ B hml hv
  obtain ⟨rfl, hsz, hP, hK, hD0⟩ := hv
  have hx := B.exec
  have hb := B.bytes
  have hr := B.returns
  have hts := atoms_spec (ws := wsX11_isFree) B.pre
  have hown : s.vm.findClass RX11 = some m.cls := findClass_of_methodNamed B.named
  have hlocks := B.notSynchronized
  subst hsz
  have hD := hD0
  generalize hAe : va_A [] s.heap.size = A at ⊢
  have hA : ∀ q : Nat, s.heap.size ≤ q → A q := fun q h => by rw [← hAe]; exact Or.inr h
  have hS : va_S A s.heap s.heap [] := va_S.rf
  have hP : va_P (dC, dI) vwCl (mW g0 pq cp v fa) s.heap := hP
  have hl := lv_entry ([.ref g0, .int x1]) (n := 3) (Nat.le_of_ble_eq_true rfl)
  rw [lg_entry_eq]
  generalize (lg_sl ([.ref g0, .int x1]) ++ List.replicate (3 - (lg_sl ([.ref g0, .int x1])).length) Slot.unset).toArray = ls at hl ⊢
  have hl : lv_has ls 3 [(0, .ref g0), (1, .int x1)] := hl
  refine lv_iconst (v := 0) hx hb dX11_isFree_0 (by decide +kernel) ?_
  refine lv_istore_n (lv' := [(2, .int 0), (0, .ref g0), (1, .int x1)]) hx hb dX11_isFree_1 rfl hl (by decide +kernel) rfl (fun ls hl => ?_)
  have hloop : ∀ (n i : Nat) (ls : Array Slot) (H : Heap) (locs : List Loc), va_P (dC, dI) vwCl (mW g0 pq cp v fa) H → va_S A s.heap H locs → ng ≤ i + n → i ≤ ng → lv_has ls 3 [(2, .int (nI i)), (0, .ref g0), (1, .int x1)] → W p l e (headSpec wsX11_isFree { frames := 2, cells := 0, slots := 0, locals := 44 }).room s m #[Value.ref g0, Value.int x1] below meth c H locs 0 0 (MQ below (va_Qi (fun (r : Int32) (u : Unit) => r = 0 ∨ r = 1) (fun _ _ => True) A) #[Value.ref g0, Value.int x1] s 0 0 A) (F0 m 2 ls []) := by
    intro n
    induction n with
    | zero =>
      intro i ls H locs hP hS hi1 hi2 hl
      refine lv_iload_n hx hb dX11_isFree_2 rfl (lv_at hl 0 rfl) ?_
      refine lv_aload_n hx hb dX11_isFree_3 rfl (lv_at hl 1 rfl) ?_
      refine va_get (D := (dC, dI)) (ci := 11) (v := .int (v 43)) (C := RX11) (T := TX11) (N := 63) hx hb hts in_wsX11_isFree_X11 hown hK hP 0 rfl rfl 43 (by decide +kernel) (hts (.fieldLink RX11 168 "ShipOfficeModel" "agreements" "I") iw_X11_isFree_1) (fun _ h9 => h9) rfl dX11_isFree_4 ?_
      refine lv_icmp_ge (tgt := 36) hx hb dX11_isFree_7 (by decide +kernel) (fun c_1 => ?_) (fun c_1 => absurd c_1 (fun h => h (by rw [eg]; exact nI_le (by omega) (by omega))))
      refine lv_iconst (v := 1) hx hb dX11_isFree_36 (by decide +kernel) ?_
      exact W.zret (v := 1) hx hb hr rfl (fun t ht hW => ⟨⟨1, (), rfl, (Or.inr rfl), trivial⟩, hS.F ht⟩) hS.2.2 dX11_isFree_37
    | succ n ih =>
      intro i ls H locs hP hS hi1 hi2 hl
      refine lv_iload_n hx hb dX11_isFree_2 rfl (lv_at hl 0 rfl) ?_
      refine lv_aload_n hx hb dX11_isFree_3 rfl (lv_at hl 1 rfl) ?_
      refine va_get (D := (dC, dI)) (ci := 11) (v := .int (v 43)) (C := RX11) (T := TX11) (N := 63) hx hb hts in_wsX11_isFree_X11 hown hK hP 0 rfl rfl 43 (by decide +kernel) (hts (.fieldLink RX11 168 "ShipOfficeModel" "agreements" "I") iw_X11_isFree_1) (fun _ h9 => h9) rfl dX11_isFree_4 ?_
      refine lv_icmp_ge (tgt := 36) hx hb dX11_isFree_7 (by decide +kernel) (fun c_2 => ?_) (fun c_2 => ?_)
      · refine lv_iconst (v := 1) hx hb dX11_isFree_36 (by decide +kernel) ?_
        exact W.zret (v := 1) hx hb hr rfl (fun t ht hW => ⟨⟨1, (), rfl, (Or.inr rfl), trivial⟩, hS.F ht⟩) hS.2.2 dX11_isFree_37
      · have hi : i < ng := by
          rcases Nat.lt_or_ge i ng with h | h
          · exact h
          · exact absurd (by rw [eg]; exact nI_le h (by omega)) c_2
        refine lv_aload_n hx hb dX11_isFree_10 rfl (lv_at hl 1 rfl) ?_
        refine va_get (D := (dC, dI)) (ci := 11) (v := .ref (pq 20)) (C := RX11) (T := TX11) (N := 63) hx hb hts in_wsX11_isFree_X11 hown hK hP 0 rfl rfl 20 (by decide +kernel) (hts (.fieldLink RX11 70 "ShipOfficeModel" "man" "[I") iw_X11_isFree_2) (fun _ h9 => h9) rfl dX11_isFree_11 ?_
        refine lv_iload_n hx hb dX11_isFree_14 rfl (lv_at hl 0 rfl) ?_
        refine va_iald hx hb hK hP 21 20 rfl rfl (vp_in_nI (by omega) (by decide +kernel)) dX11_isFree_15 ?_
        refine lv_iload_n hx hb dX11_isFree_16 rfl (lv_at hl 2 rfl) ?_
        refine lv_icmp_ne (tgt := 30) hx hb dX11_isFree_17 (by decide +kernel) (fun c_3 => ?_) (fun c_3 => ?_)
        · refine lv_iinc (v := nI (i + 1)) (lv' := [(2, .int (nI (i + 1))), (0, .ref g0), (1, .int x1)]) hx hb dX11_isFree_30 hl (k := 0) rfl (nI_1 i) (by decide +kernel) rfl (fun ls hl => ?_)
          refine lv_goto (tgt := 2) hx hb dX11_isFree_33 (by decide +kernel) ?_
          exact ih (i + 1) ls _ _ hP hS (by omega) (by omega) (lv_sub hl [0, 1, 2] rfl)
        · refine lv_aload_n hx hb dX11_isFree_20 rfl (lv_at hl 1 rfl) ?_
          refine lv_iload_n hx hb dX11_isFree_21 rfl (lv_at hl 0 rfl) ?_
          have hFc : ∀ q, va_A [] H.size q → A q := pu_free hS hA
          refine va_calli (va_runV (As := [.int (nI i)]) (rest := []) ⟨hx, hb, hml, hown, hts⟩ (c_X11_goesOn l dC dI H.size g0 pq cp v fa nh hnh eh (nI i) (vp_in_nI (by omega) (by decide +kernel))) (cwV 1 hts gX11_isFree_X11_goesOn rfl rfl rfl (by decide +kernel) ⟨(Nat.le_of_ble_eq_true rfl), (Nat.le_of_ble_eq_true rfl)⟩) (pr_V (r := (RX11, TX11, 63)) hP hK hD 0 11 rfl rfl) rfl rfl hl.1 rfl (lv_room (Nat.le_of_ble_eq_true rfl)) dX11_isFree_22 ⟨(Nat.le_of_ble_eq_true rfl), (Nat.le_of_ble_eq_true rfl)⟩) hS (fun q _ h => hFc q h) hFc (fun r_5 u t H locs ht hvm w_4 hB hz1 hk1 hS => ?_)
          have hP := pu_keep hP hk1
          clear hk1 hz1 hvm hB ht hFc
          refine lv_if_eq (tgt := 30) hx hb dX11_isFree_25 (by decide +kernel) (fun c_6 => ?_) (fun c_6 => ?_)
          · refine lv_iinc (v := nI (i + 1)) (lv' := [(2, .int (nI (i + 1))), (0, .ref g0), (1, .int x1)]) hx hb dX11_isFree_30 hl (k := 0) rfl (nI_1 i) (by decide +kernel) rfl (fun ls hl => ?_)
            refine lv_goto (tgt := 2) hx hb dX11_isFree_33 (by decide +kernel) ?_
            exact ih (i + 1) ls _ _ hP hS (by omega) (by omega) (lv_sub hl [0, 1, 2] rfl)
          · refine lv_iconst (v := 0) hx hb dX11_isFree_28 (by decide +kernel) ?_
            exact W.zret (v := 0) hx hb hr rfl (fun t ht hW => ⟨⟨0, (), rfl, (Or.inl rfl), trivial⟩, hS.F ht⟩) hS.2.2 dX11_isFree_29
  exact hloop ng 0 ls _ _ hP hS (by omega) (by omega) (lv_sub hl [0, 1, 2] rfl)
