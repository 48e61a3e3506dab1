abbrev cX11_findGroups : ByteArray := prog_13_method_68_code
def yX11_findGroups : MethodName := ⟨RX11, "findGroups", "()V"⟩
abbrev cX11_group : ByteArray := prog_13_method_69_code
def yX11_group : MethodName := ⟨RX11, "group", "(I)I"⟩
abbrev cX11_borrowed : ByteArray := prog_13_method_71_code
def yX11_borrowed : MethodName := ⟨RX11, "borrowed", "(I)I"⟩
theorem gw_X11_isAlike : wsX11_isAlike.all goodWord = true := by decide +kernel
def wsX11_findGroups : List Cond := .code yX11_findGroups cX11_findGroups 4 none :: ([.fieldLink RX11 157 "ShipOfficeModel" "men" "I", .fieldLink RX11 131 "ShipOfficeModel" "groups" "[I", .methodLink RX11 326 yX11_isAlike, .instanceMethod yX11_isAlike, .selects RX11 yX11_isAlike yX11_isAlike, .initialized RX11, .code yX11_isAlike cX11_isAlike 7 (some .boolean), .fieldLink RX11 19 "ShipOfficeModel" "marks" "[I", .fieldLink RX11 16 "ShipOfficeModel" "name" "[I"] ++ wsX110)
theorem gw_X11_findGroups : wsX11_findGroups.all goodWord = true := by decide +kernel
theorem il_X11_findGroups_1 : ∀ w ∈ ([.fieldLink RX11 157 "ShipOfficeModel" "men" "I", .fieldLink RX11 131 "ShipOfficeModel" "groups" "[I", .methodLink RX11 326 yX11_isAlike, .instanceMethod yX11_isAlike, .selects RX11 yX11_isAlike yX11_isAlike, .initialized RX11, .code yX11_isAlike cX11_isAlike 7 (some .boolean), .fieldLink RX11 19 "ShipOfficeModel" "marks" "[I", .fieldLink RX11 16 "ShipOfficeModel" "name" "[I"] : List Cond), w ∈ wsX11_findGroups := fun w h => (List.mem_cons_of_mem _ (List.mem_append_left _ h))
theorem il_X11_findGroups_2 : ∀ w ∈ wsX110, w ∈ wsX11_findGroups := fun w h => (List.mem_cons_of_mem _ (List.mem_append_right _ h))
theorem iw_X11_findGroups_1 : Cond.fieldLink RX11 157 "ShipOfficeModel" "men" "I" ∈ wsX11_findGroups := (mmI il_X11_findGroups_1 0 rfl)
theorem iw_X11_findGroups_2 : Cond.fieldLink RX11 131 "ShipOfficeModel" "groups" "[I" ∈ wsX11_findGroups := (mmI il_X11_findGroups_1 1 rfl)
def wsX11_group_r1 : List Cond := [Cond.fieldLink RX11 131 "ShipOfficeModel" "groups" "[I", Cond.methodLink RX11 297 yX11_isMan, Cond.instanceMethod yX11_isMan, Cond.selects RX11 yX11_isMan yX11_isMan, Cond.initialized RX11, Cond.code yX11_isMan cX11_isMan 2 (some .boolean), Cond.fieldLink RX11 157 "ShipOfficeModel" "men" "I", Cond.methodLink RX11 161 yX11_isIn, Cond.static yX11_isIn, Cond.code yX11_isIn cX11_isIn 2 (some .boolean), Cond.methodLink RX11 153 yX11_refuse, Cond.instanceMethod yX11_refuse, Cond.selects RX11 yX11_refuse yX11_refuse, Cond.code yX11_refuse cX11_refuse 2 (some .int), Cond.fieldLink RX11 7 "ShipOfficeModel" "refusals" "[I", Cond.methodLink RX11 329 yX11_findGroups, Cond.instanceMethod yX11_findGroups, Cond.selects RX11 yX11_findGroups yX11_findGroups, Cond.code yX11_findGroups cX11_findGroups 4 none, Cond.methodLink RX11 326 yX11_isAlike, Cond.instanceMethod yX11_isAlike, Cond.selects RX11 yX11_isAlike yX11_isAlike, Cond.code yX11_isAlike cX11_isAlike 7 (some .boolean), Cond.fieldLink RX11 19 "ShipOfficeModel" "marks" "[I"]
def wsX11_group_r2 : List Cond := [Cond.fieldLink RX11 16 "ShipOfficeModel" "name" "[I"]
def wsX11_group : List Cond := .code yX11_group cX11_group 2 (some .int) :: ((wsX11_group_r1 ++ wsX11_group_r2) ++ wsX110)
theorem il_X11_group_1 : ∀ w ∈ wsX11_group_r1, w ∈ wsX11_group := fun w h => (List.mem_cons_of_mem _ (List.mem_append_left _ (List.mem_append_left _ h)))
theorem il_X11_group_2 : ∀ w ∈ wsX11_group_r2, w ∈ wsX11_group := fun w h => (List.mem_cons_of_mem _ (List.mem_append_left _ (List.mem_append_right _ h)))
theorem il_X11_group_3 : ∀ w ∈ wsX110, w ∈ wsX11_group := fun w h => (List.mem_cons_of_mem _ (List.mem_append_right _ h))
theorem iw_X11_group_1 : Cond.fieldLink RX11 131 "ShipOfficeModel" "groups" "[I" ∈ wsX11_group := (mmI il_X11_group_1 0 rfl)
theorem gw_X11_endOf : wsX11_endOf.all goodWord = true := by decide +kernel
def wsX11_borrowed_r1 : List Cond := [Cond.fieldLink RX11 82 "ShipOfficeModel" "paper" "[I", Cond.fieldLink RX11 131 "ShipOfficeModel" "groups" "[I", Cond.fieldLink RX11 70 "ShipOfficeModel" "man" "[I", Cond.fieldLink RX11 168 "ShipOfficeModel" "agreements" "I", Cond.fieldLink RX11 85 "ShipOfficeModel" "signed" "[I", Cond.methodLink RX11 199 yX11_isAgreement, Cond.instanceMethod yX11_isAgreement, Cond.selects RX11 yX11_isAgreement yX11_isAgreement, Cond.initialized RX11, Cond.code yX11_isAgreement cX11_isAgreement 2 (some .boolean), Cond.methodLink RX11 161 yX11_isIn, Cond.static yX11_isIn, Cond.code yX11_isIn cX11_isIn 2 (some .boolean), Cond.methodLink RX11 153 yX11_refuse, Cond.instanceMethod yX11_refuse, Cond.selects RX11 yX11_refuse yX11_refuse, Cond.code yX11_refuse cX11_refuse 2 (some .int), Cond.fieldLink RX11 7 "ShipOfficeModel" "refusals" "[I", Cond.methodLink RX11 329 yX11_findGroups, Cond.instanceMethod yX11_findGroups, Cond.selects RX11 yX11_findGroups yX11_findGroups, Cond.code yX11_findGroups cX11_findGroups 4 none, Cond.fieldLink RX11 157 "ShipOfficeModel" "men" "I", Cond.methodLink RX11 326 yX11_isAlike]
def wsX11_borrowed_r2 : List Cond := [Cond.instanceMethod yX11_isAlike, Cond.selects RX11 yX11_isAlike yX11_isAlike, Cond.code yX11_isAlike cX11_isAlike 7 (some .boolean), Cond.fieldLink RX11 19 "ShipOfficeModel" "marks" "[I", Cond.fieldLink RX11 16 "ShipOfficeModel" "name" "[I", Cond.methodLink RX11 332 yX11_endOf, Cond.instanceMethod yX11_endOf, Cond.selects RX11 yX11_endOf yX11_endOf, Cond.code yX11_endOf cX11_endOf 2 (some .int), Cond.fieldLink RX11 88 "ShipOfficeModel" "offOn" "[I", Cond.fieldLink RX11 171 "ShipOfficeModel" "now" "I"]
def wsX11_borrowed : List Cond := .code yX11_borrowed cX11_borrowed 3 (some .int) :: ((wsX11_borrowed_r1 ++ wsX11_borrowed_r2) ++ wsX110)
theorem il_X11_borrowed_1 : ∀ w ∈ wsX11_borrowed_r1, w ∈ wsX11_borrowed := fun w h => (List.mem_cons_of_mem _ (List.mem_append_left _ (List.mem_append_left _ h)))
theorem il_X11_borrowed_2 : ∀ w ∈ wsX11_borrowed_r2, w ∈ wsX11_borrowed := fun w h => (List.mem_cons_of_mem _ (List.mem_append_left _ (List.mem_append_right _ h)))
theorem il_X11_borrowed_3 : ∀ w ∈ wsX110, w ∈ wsX11_borrowed := fun w h => (List.mem_cons_of_mem _ (List.mem_append_right _ h))
theorem iw_X11_borrowed_1 : Cond.fieldLink RX11 82 "ShipOfficeModel" "paper" "[I" ∈ wsX11_borrowed := (mmI il_X11_borrowed_1 0 rfl)
theorem iw_X11_borrowed_2 : Cond.fieldLink RX11 131 "ShipOfficeModel" "groups" "[I" ∈ wsX11_borrowed := (mmI il_X11_borrowed_1 1 rfl)
theorem iw_X11_borrowed_3 : Cond.fieldLink RX11 70 "ShipOfficeModel" "man" "[I" ∈ wsX11_borrowed := (mmI il_X11_borrowed_1 2 rfl)
theorem iw_X11_borrowed_4 : Cond.fieldLink RX11 168 "ShipOfficeModel" "agreements" "I" ∈ wsX11_borrowed := (mmI il_X11_borrowed_1 3 rfl)
theorem iw_X11_borrowed_5 : Cond.fieldLink RX11 85 "ShipOfficeModel" "signed" "[I" ∈ wsX11_borrowed := (mmI il_X11_borrowed_1 4 rfl)
set_option maxRecDepth 100000 in
theorem ggX11_findGroups_X11_isAlike : GoodIn wsX11_findGroups wsX11_isAlike := goodIn_sub (mmC (mmI il_X11_findGroups_1 6 rfl) (mmA (mmC (mmI il_X11_findGroups_1 7 rfl) (mmC (mmI il_X11_findGroups_1 8 rfl) mmN)) il_X11_findGroups_2)) gw_X11_isAlike
theorem gX11_findGroups_X11_isAlike : GoodIn wsX11_findGroups (wsV RX11 326 RX11 yX11_isAlike wsX11_isAlike) := goodIn_app (goodIn_sub (mmC (mmI il_X11_findGroups_1 2 rfl) (mmC (mmI il_X11_findGroups_1 3 rfl) (mmC (mmI il_X11_findGroups_1 4 rfl) (mmC (mmI il_X11_findGroups_1 5 rfl) mmN)))) (by decide +kernel)) ggX11_findGroups_X11_isAlike
theorem dX11_findGroups_0 : decode cX11_findGroups 0 = .ok (.iconst 0, 1) := by decide +kernel
theorem dX11_findGroups_1 : decode cX11_findGroups 1 = .ok (.istore_n 1, 1) := by decide +kernel
theorem dX11_findGroups_2 : decode cX11_findGroups 2 = .ok (.iload_n 1, 1) := by decide +kernel
theorem dX11_findGroups_3 : decode cX11_findGroups 3 = .ok (.aload_n 0, 1) := by decide +kernel
theorem dX11_findGroups_4 : decode cX11_findGroups 4 = .ok (.getfield 157, 3) := by decide +kernel
theorem dX11_findGroups_7 : decode cX11_findGroups 7 = .ok (.if_icmp .ge 16, 3) := by decide +kernel
theorem dX11_findGroups_10 : decode cX11_findGroups 10 = .ok (.aload_n 0, 1) := by decide +kernel
theorem dX11_findGroups_11 : decode cX11_findGroups 11 = .ok (.getfield 131, 3) := by decide +kernel
theorem dX11_findGroups_14 : decode cX11_findGroups 14 = .ok (.iload_n 1, 1) := by decide +kernel
theorem dX11_findGroups_15 : decode cX11_findGroups 15 = .ok (.iload_n 1, 1) := by decide +kernel
theorem dX11_findGroups_16 : decode cX11_findGroups 16 = .ok (.iastore, 1) := by decide +kernel
theorem dX11_findGroups_17 : decode cX11_findGroups 17 = .ok (.iinc 1 1, 3) := by decide +kernel
theorem dX11_findGroups_20 : decode cX11_findGroups 20 = .ok (.goto (-18), 3) := by decide +kernel
theorem dX11_findGroups_23 : decode cX11_findGroups 23 = .ok (.iconst 1, 1) := by decide +kernel
theorem dX11_findGroups_24 : decode cX11_findGroups 24 = .ok (.istore_n 1, 1) := by decide +kernel
theorem dX11_findGroups_25 : decode cX11_findGroups 25 = .ok (.iload_n 1, 1) := by decide +kernel
theorem dX11_findGroups_26 : decode cX11_findGroups 26 = .ok (.ifCond .eq 81, 3) := by decide +kernel
theorem dX11_findGroups_29 : decode cX11_findGroups 29 = .ok (.iconst 0, 1) := by decide +kernel
theorem dX11_findGroups_30 : decode cX11_findGroups 30 = .ok (.istore_n 1, 1) := by decide +kernel
theorem dX11_findGroups_31 : decode cX11_findGroups 31 = .ok (.iconst 0, 1) := by decide +kernel
theorem dX11_findGroups_32 : decode cX11_findGroups 32 = .ok (.istore_n 2, 1) := by decide +kernel
theorem dX11_findGroups_33 : decode cX11_findGroups 33 = .ok (.iload_n 2, 1) := by decide +kernel
theorem dX11_findGroups_34 : decode cX11_findGroups 34 = .ok (.aload_n 0, 1) := by decide +kernel
theorem dX11_findGroups_35 : decode cX11_findGroups 35 = .ok (.getfield 157, 3) := by decide +kernel
theorem dX11_findGroups_38 : decode cX11_findGroups 38 = .ok (.if_icmp .ge 66, 3) := by decide +kernel
theorem dX11_findGroups_41 : decode cX11_findGroups 41 = .ok (.iconst 0, 1) := by decide +kernel
theorem dX11_findGroups_42 : decode cX11_findGroups 42 = .ok (.istore_n 3, 1) := by decide +kernel
theorem dX11_findGroups_43 : decode cX11_findGroups 43 = .ok (.iload_n 3, 1) := by decide +kernel
theorem dX11_findGroups_44 : decode cX11_findGroups 44 = .ok (.aload_n 0, 1) := by decide +kernel
theorem dX11_findGroups_45 : decode cX11_findGroups 45 = .ok (.getfield 157, 3) := by decide +kernel
theorem dX11_findGroups_48 : decode cX11_findGroups 48 = .ok (.if_icmp .ge 50, 3) := by decide +kernel
theorem dX11_findGroups_51 : decode cX11_findGroups 51 = .ok (.aload_n 0, 1) := by decide +kernel
theorem dX11_findGroups_52 : decode cX11_findGroups 52 = .ok (.getfield 131, 3) := by decide +kernel
theorem dX11_findGroups_55 : decode cX11_findGroups 55 = .ok (.iload_n 3, 1) := by decide +kernel
theorem dX11_findGroups_56 : decode cX11_findGroups 56 = .ok (.iaload, 1) := by decide +kernel
theorem dX11_findGroups_57 : decode cX11_findGroups 57 = .ok (.aload_n 0, 1) := by decide +kernel
theorem dX11_findGroups_58 : decode cX11_findGroups 58 = .ok (.getfield 131, 3) := by decide +kernel
theorem dX11_findGroups_61 : decode cX11_findGroups 61 = .ok (.iload_n 2, 1) := by decide +kernel
theorem dX11_findGroups_62 : decode cX11_findGroups 62 = .ok (.iaload, 1) := by decide +kernel
theorem dX11_findGroups_63 : decode cX11_findGroups 63 = .ok (.if_icmp .ge 29, 3) := by decide +kernel
theorem dX11_findGroups_66 : decode cX11_findGroups 66 = .ok (.aload_n 0, 1) := by decide +kernel
theorem dX11_findGroups_67 : decode cX11_findGroups 67 = .ok (.iload_n 2, 1) := by decide +kernel
theorem dX11_findGroups_68 : decode cX11_findGroups 68 = .ok (.iload_n 3, 1) := by decide +kernel
theorem dX11_findGroups_69 : decode cX11_findGroups 69 = .ok (.invokevirtual 326, 3) := by decide +kernel
theorem dX11_findGroups_72 : decode cX11_findGroups 72 = .ok (.ifCond .ne 6, 3) := by decide +kernel
theorem dX11_findGroups_75 : decode cX11_findGroups 75 = .ok (.goto 17, 3) := by decide +kernel
theorem dX11_findGroups_78 : decode cX11_findGroups 78 = .ok (.aload_n 0, 1) := by decide +kernel
theorem dX11_findGroups_79 : decode cX11_findGroups 79 = .ok (.getfield 131, 3) := by decide +kernel
theorem dX11_findGroups_82 : decode cX11_findGroups 82 = .ok (.iload_n 2, 1) := by decide +kernel
theorem dX11_findGroups_83 : decode cX11_findGroups 83 = .ok (.aload_n 0, 1) := by decide +kernel
theorem dX11_findGroups_84 : decode cX11_findGroups 84 = .ok (.getfield 131, 3) := by decide +kernel
theorem dX11_findGroups_87 : decode cX11_findGroups 87 = .ok (.iload_n 3, 1) := by decide +kernel
theorem dX11_findGroups_88 : decode cX11_findGroups 88 = .ok (.iaload, 1) := by decide +kernel
theorem dX11_findGroups_89 : decode cX11_findGroups 89 = .ok (.iastore, 1) := by decide +kernel
theorem dX11_findGroups_90 : decode cX11_findGroups 90 = .ok (.iconst 1, 1) := by decide +kernel
theorem dX11_findGroups_91 : decode cX11_findGroups 91 = .ok (.istore_n 1, 1) := by decide +kernel
theorem dX11_findGroups_92 : decode cX11_findGroups 92 = .ok (.iinc 3 1, 3) := by decide +kernel
theorem dX11_findGroups_95 : decode cX11_findGroups 95 = .ok (.goto (-52), 3) := by decide +kernel
theorem dX11_findGroups_98 : decode cX11_findGroups 98 = .ok (.iinc 2 1, 3) := by decide +kernel
theorem dX11_findGroups_101 : decode cX11_findGroups 101 = .ok (.goto (-68), 3) := by decide +kernel
theorem dX11_findGroups_104 : decode cX11_findGroups 104 = .ok (.goto (-79), 3) := by decide +kernel
theorem dX11_findGroups_107 : decode cX11_findGroups 107 = .ok (.return_, 1) := by decide +kernel
set_option maxRecDepth 100000 in
theorem ggX11_group_X11_isMan : GoodIn wsX11_group wsX11_isMan := goodIn_sub (mmC (mmI il_X11_group_1 5 rfl) (mmA (mmC (mmI il_X11_group_1 6 rfl) (mmC (mmI il_X11_group_1 7 rfl) (mmC (mmI il_X11_group_1 8 rfl) (mmC (mmI il_X11_group_1 4 rfl) (mmC (mmI il_X11_group_1 9 rfl) mmN))))) il_X11_group_3)) gw_X11_isMan
theorem gX11_group_X11_isMan : GoodIn wsX11_group (wsV RX11 297 RX11 yX11_isMan wsX11_isMan) := goodIn_app (goodIn_sub (mmC (mmI il_X11_group_1 1 rfl) (mmC (mmI il_X11_group_1 2 rfl) (mmC (mmI il_X11_group_1 3 rfl) (mmC (mmI il_X11_group_1 4 rfl) mmN)))) (by decide +kernel)) ggX11_group_X11_isMan
set_option maxRecDepth 100000 in
theorem ggX11_group_X11_refuse : GoodIn wsX11_group wsX11_refuse := goodIn_sub (mmC (mmI il_X11_group_1 13 rfl) (mmA (mmC (mmI il_X11_group_1 14 rfl) mmN) il_X11_group_3)) gw_X11_refuse
theorem gX11_group_X11_refuse : GoodIn wsX11_group (wsV RX11 153 RX11 yX11_refuse wsX11_refuse) := goodIn_app (goodIn_sub (mmC (mmI il_X11_group_1 10 rfl) (mmC (mmI il_X11_group_1 11 rfl) (mmC (mmI il_X11_group_1 12 rfl) (mmC (mmI il_X11_group_1 4 rfl) mmN)))) (by decide +kernel)) ggX11_group_X11_refuse
set_option maxRecDepth 100000 in
theorem ggX11_group_X11_findGroups : GoodIn wsX11_group wsX11_findGroups := goodIn_sub (mmC (mmI il_X11_group_1 18 rfl) (mmA (mmC (mmI il_X11_group_1 6 rfl) (mmC (mmI il_X11_group_1 0 rfl) (mmC (mmI il_X11_group_1 19 rfl) (mmC (mmI il_X11_group_1 20 rfl) (mmC (mmI il_X11_group_1 21 rfl) (mmC (mmI il_X11_group_1 4 rfl) (mmC (mmI il_X11_group_1 22 rfl) (mmC (mmI il_X11_group_1 23 rfl) (mmC (mmI il_X11_group_2 0 rfl) mmN))))))))) il_X11_group_3)) gw_X11_findGroups
theorem gX11_group_X11_findGroups : GoodIn wsX11_group (wsV RX11 329 RX11 yX11_findGroups wsX11_findGroups) := goodIn_app (goodIn_sub (mmC (mmI il_X11_group_1 15 rfl) (mmC (mmI il_X11_group_1 16 rfl) (mmC (mmI il_X11_group_1 17 rfl) (mmC (mmI il_X11_group_1 4 rfl) mmN)))) (by decide +kernel)) ggX11_group_X11_findGroups
theorem dX11_group_0 : decode cX11_group 0 = .ok (.aload_n 0, 1) := by decide +kernel
theorem dX11_group_1 : decode cX11_group 1 = .ok (.iload_n 1, 1) := by decide +kernel
theorem dX11_group_2 : decode cX11_group 2 = .ok (.invokevirtual 297, 3) := by decide +kernel
theorem dX11_group_5 : decode cX11_group 5 = .ok (.ifCond .ne 9, 3) := by decide +kernel
theorem dX11_group_8 : decode cX11_group 8 = .ok (.aload_n 0, 1) := by decide +kernel
theorem dX11_group_9 : decode cX11_group 9 = .ok (.iconst (-1), 1) := by decide +kernel
theorem dX11_group_10 : decode cX11_group 10 = .ok (.invokevirtual 153, 3) := by decide +kernel
theorem dX11_group_13 : decode cX11_group 13 = .ok (.ireturn, 1) := by decide +kernel
theorem dX11_group_14 : decode cX11_group 14 = .ok (.aload_n 0, 1) := by decide +kernel
theorem dX11_group_15 : decode cX11_group 15 = .ok (.invokevirtual 329, 3) := by decide +kernel
theorem dX11_group_18 : decode cX11_group 18 = .ok (.aload_n 0, 1) := by decide +kernel
theorem dX11_group_19 : decode cX11_group 19 = .ok (.getfield 131, 3) := by decide +kernel
theorem dX11_group_22 : decode cX11_group 22 = .ok (.iload_n 1, 1) := by decide +kernel
theorem dX11_group_23 : decode cX11_group 23 = .ok (.iaload, 1) := by decide +kernel
theorem dX11_group_24 : decode cX11_group 24 = .ok (.ireturn, 1) := by decide +kernel
set_option maxRecDepth 100000 in
theorem ggX11_borrowed_X11_isAgreement : GoodIn wsX11_borrowed wsX11_isAgreement := goodIn_sub (mmC (mmI il_X11_borrowed_1 9 rfl) (mmA (mmC (mmI il_X11_borrowed_1 3 rfl) (mmC (mmI il_X11_borrowed_1 10 rfl) (mmC (mmI il_X11_borrowed_1 11 rfl) (mmC (mmI il_X11_borrowed_1 8 rfl) (mmC (mmI il_X11_borrowed_1 12 rfl) mmN))))) il_X11_borrowed_3)) gw_X11_isAgreement
theorem gX11_borrowed_X11_isAgreement : GoodIn wsX11_borrowed (wsV RX11 199 RX11 yX11_isAgreement wsX11_isAgreement) := goodIn_app (goodIn_sub (mmC (mmI il_X11_borrowed_1 5 rfl) (mmC (mmI il_X11_borrowed_1 6 rfl) (mmC (mmI il_X11_borrowed_1 7 rfl) (mmC (mmI il_X11_borrowed_1 8 rfl) mmN)))) (by decide +kernel)) ggX11_borrowed_X11_isAgreement
set_option maxRecDepth 100000 in
theorem ggX11_borrowed_X11_refuse : GoodIn wsX11_borrowed wsX11_refuse := goodIn_sub (mmC (mmI il_X11_borrowed_1 16 rfl) (mmA (mmC (mmI il_X11_borrowed_1 17 rfl) mmN) il_X11_borrowed_3)) gw_X11_refuse
theorem gX11_borrowed_X11_refuse : GoodIn wsX11_borrowed (wsV RX11 153 RX11 yX11_refuse wsX11_refuse) := goodIn_app (goodIn_sub (mmC (mmI il_X11_borrowed_1 13 rfl) (mmC (mmI il_X11_borrowed_1 14 rfl) (mmC (mmI il_X11_borrowed_1 15 rfl) (mmC (mmI il_X11_borrowed_1 8 rfl) mmN)))) (by decide +kernel)) ggX11_borrowed_X11_refuse
set_option maxRecDepth 100000 in
theorem ggX11_borrowed_X11_findGroups : GoodIn wsX11_borrowed wsX11_findGroups := goodIn_sub (mmC (mmI il_X11_borrowed_1 21 rfl) (mmA (mmC (mmI il_X11_borrowed_1 22 rfl) (mmC (mmI il_X11_borrowed_1 1 rfl) (mmC (mmI il_X11_borrowed_1 23 rfl) (mmC (mmI il_X11_borrowed_2 0 rfl) (mmC (mmI il_X11_borrowed_2 1 rfl) (mmC (mmI il_X11_borrowed_1 8 rfl) (mmC (mmI il_X11_borrowed_2 2 rfl) (mmC (mmI il_X11_borrowed_2 3 rfl) (mmC (mmI il_X11_borrowed_2 4 rfl) mmN))))))))) il_X11_borrowed_3)) gw_X11_findGroups
theorem gX11_borrowed_X11_findGroups : GoodIn wsX11_borrowed (wsV RX11 329 RX11 yX11_findGroups wsX11_findGroups) := goodIn_app (goodIn_sub (mmC (mmI il_X11_borrowed_1 18 rfl) (mmC (mmI il_X11_borrowed_1 19 rfl) (mmC (mmI il_X11_borrowed_1 20 rfl) (mmC (mmI il_X11_borrowed_1 8 rfl) mmN)))) (by decide +kernel)) ggX11_borrowed_X11_findGroups
set_option maxRecDepth 100000 in
theorem ggX11_borrowed_X11_endOf : GoodIn wsX11_borrowed wsX11_endOf := goodIn_sub (mmC (mmI il_X11_borrowed_2 8 rfl) (mmA (mmC (mmI il_X11_borrowed_2 9 rfl) (mmC (mmI il_X11_borrowed_2 10 rfl) mmN)) il_X11_borrowed_3)) gw_X11_endOf
theorem gX11_borrowed_X11_endOf : GoodIn wsX11_borrowed (wsV RX11 332 RX11 yX11_endOf wsX11_endOf) := goodIn_app (goodIn_sub (mmC (mmI il_X11_borrowed_2 5 rfl) (mmC (mmI il_X11_borrowed_2 6 rfl) (mmC (mmI il_X11_borrowed_2 7 rfl) (mmC (mmI il_X11_borrowed_1 8 rfl) mmN)))) (by decide +kernel)) ggX11_borrowed_X11_endOf
theorem dX11_borrowed_0 : decode cX11_borrowed 0 = .ok (.aload_n 0, 1) := by decide +kernel
theorem dX11_borrowed_1 : decode cX11_borrowed 1 = .ok (.iload_n 1, 1) := by decide +kernel
theorem dX11_borrowed_2 : decode cX11_borrowed 2 = .ok (.invokevirtual 199, 3) := by decide +kernel
theorem dX11_borrowed_5 : decode cX11_borrowed 5 = .ok (.ifCond .ne 9, 3) := by decide +kernel
theorem dX11_borrowed_8 : decode cX11_borrowed 8 = .ok (.aload_n 0, 1) := by decide +kernel
theorem dX11_borrowed_9 : decode cX11_borrowed 9 = .ok (.iconst (-1), 1) := by decide +kernel
theorem dX11_borrowed_10 : decode cX11_borrowed 10 = .ok (.invokevirtual 153, 3) := by decide +kernel
theorem dX11_borrowed_13 : decode cX11_borrowed 13 = .ok (.ireturn, 1) := by decide +kernel
theorem dX11_borrowed_14 : decode cX11_borrowed 14 = .ok (.aload_n 0, 1) := by decide +kernel
theorem dX11_borrowed_15 : decode cX11_borrowed 15 = .ok (.getfield 82, 3) := by decide +kernel
theorem dX11_borrowed_18 : decode cX11_borrowed 18 = .ok (.iload_n 1, 1) := by decide +kernel
theorem dX11_borrowed_19 : decode cX11_borrowed 19 = .ok (.iaload, 1) := by decide +kernel
theorem dX11_borrowed_20 : decode cX11_borrowed 20 = .ok (.ifCond .ge 5, 3) := by decide +kernel
theorem dX11_borrowed_23 : decode cX11_borrowed 23 = .ok (.iconst 0, 1) := by decide +kernel
theorem dX11_borrowed_24 : decode cX11_borrowed 24 = .ok (.ireturn, 1) := by decide +kernel
theorem dX11_borrowed_25 : decode cX11_borrowed 25 = .ok (.aload_n 0, 1) := by decide +kernel
theorem dX11_borrowed_26 : decode cX11_borrowed 26 = .ok (.invokevirtual 329, 3) := by decide +kernel
theorem dX11_borrowed_29 : decode cX11_borrowed 29 = .ok (.aload_n 0, 1) := by decide +kernel
theorem dX11_borrowed_30 : decode cX11_borrowed 30 = .ok (.getfield 131, 3) := by decide +kernel
theorem dX11_borrowed_33 : decode cX11_borrowed 33 = .ok (.aload_n 0, 1) := by decide +kernel
theorem dX11_borrowed_34 : decode cX11_borrowed 34 = .ok (.getfield 70, 3) := by decide +kernel
theorem dX11_borrowed_37 : decode cX11_borrowed 37 = .ok (.aload_n 0, 1) := by decide +kernel
theorem dX11_borrowed_38 : decode cX11_borrowed 38 = .ok (.getfield 82, 3) := by decide +kernel
theorem dX11_borrowed_41 : decode cX11_borrowed 41 = .ok (.iload_n 1, 1) := by decide +kernel
theorem dX11_borrowed_42 : decode cX11_borrowed 42 = .ok (.iaload, 1) := by decide +kernel
theorem dX11_borrowed_43 : decode cX11_borrowed 43 = .ok (.iaload, 1) := by decide +kernel
theorem dX11_borrowed_44 : decode cX11_borrowed 44 = .ok (.iaload, 1) := by decide +kernel
theorem dX11_borrowed_45 : decode cX11_borrowed 45 = .ok (.aload_n 0, 1) := by decide +kernel
theorem dX11_borrowed_46 : decode cX11_borrowed 46 = .ok (.getfield 131, 3) := by decide +kernel
theorem dX11_borrowed_49 : decode cX11_borrowed 49 = .ok (.aload_n 0, 1) := by decide +kernel
theorem dX11_borrowed_50 : decode cX11_borrowed 50 = .ok (.getfield 70, 3) := by decide +kernel
theorem dX11_borrowed_53 : decode cX11_borrowed 53 = .ok (.iload_n 1, 1) := by decide +kernel
theorem dX11_borrowed_54 : decode cX11_borrowed 54 = .ok (.iaload, 1) := by decide +kernel
theorem dX11_borrowed_55 : decode cX11_borrowed 55 = .ok (.iaload, 1) := by decide +kernel
theorem dX11_borrowed_56 : decode cX11_borrowed 56 = .ok (.if_icmp .eq 5, 3) := by decide +kernel
theorem dX11_borrowed_59 : decode cX11_borrowed 59 = .ok (.iconst 1, 1) := by decide +kernel
theorem dX11_borrowed_60 : decode cX11_borrowed 60 = .ok (.ireturn, 1) := by decide +kernel
theorem dX11_borrowed_61 : decode cX11_borrowed 61 = .ok (.iconst 0, 1) := by decide +kernel
theorem dX11_borrowed_62 : decode cX11_borrowed 62 = .ok (.istore_n 2, 1) := by decide +kernel
theorem dX11_borrowed_63 : decode cX11_borrowed 63 = .ok (.iload_n 2, 1) := by decide +kernel
theorem dX11_borrowed_64 : decode cX11_borrowed 64 = .ok (.aload_n 0, 1) := by decide +kernel
theorem dX11_borrowed_65 : decode cX11_borrowed 65 = .ok (.getfield 168, 3) := by decide +kernel
theorem dX11_borrowed_68 : decode cX11_borrowed 68 = .ok (.if_icmp .ge 59, 3) := by decide +kernel
theorem dX11_borrowed_71 : decode cX11_borrowed 71 = .ok (.iload_n 2, 1) := by decide +kernel
theorem dX11_borrowed_72 : decode cX11_borrowed 72 = .ok (.iload_n 1, 1) := by decide +kernel
theorem dX11_borrowed_73 : decode cX11_borrowed 73 = .ok (.if_icmp .eq 48, 3) := by decide +kernel
theorem dX11_borrowed_76 : decode cX11_borrowed 76 = .ok (.aload_n 0, 1) := by decide +kernel
theorem dX11_borrowed_77 : decode cX11_borrowed 77 = .ok (.getfield 82, 3) := by decide +kernel
theorem dX11_borrowed_80 : decode cX11_borrowed 80 = .ok (.iload_n 2, 1) := by decide +kernel
theorem dX11_borrowed_81 : decode cX11_borrowed 81 = .ok (.iaload, 1) := by decide +kernel
theorem dX11_borrowed_82 : decode cX11_borrowed 82 = .ok (.aload_n 0, 1) := by decide +kernel
theorem dX11_borrowed_83 : decode cX11_borrowed 83 = .ok (.getfield 82, 3) := by decide +kernel
theorem dX11_borrowed_86 : decode cX11_borrowed 86 = .ok (.iload_n 1, 1) := by decide +kernel
theorem dX11_borrowed_87 : decode cX11_borrowed 87 = .ok (.iaload, 1) := by decide +kernel
theorem dX11_borrowed_88 : decode cX11_borrowed 88 = .ok (.if_icmp .ne 33, 3) := by decide +kernel
theorem dX11_borrowed_91 : decode cX11_borrowed 91 = .ok (.aload_n 0, 1) := by decide +kernel
theorem dX11_borrowed_92 : decode cX11_borrowed 92 = .ok (.getfield 85, 3) := by decide +kernel
theorem dX11_borrowed_95 : decode cX11_borrowed 95 = .ok (.iload_n 2, 1) := by decide +kernel
theorem dX11_borrowed_96 : decode cX11_borrowed 96 = .ok (.iaload, 1) := by decide +kernel
theorem dX11_borrowed_97 : decode cX11_borrowed 97 = .ok (.aload_n 0, 1) := by decide +kernel
theorem dX11_borrowed_98 : decode cX11_borrowed 98 = .ok (.iload_n 1, 1) := by decide +kernel
theorem dX11_borrowed_99 : decode cX11_borrowed 99 = .ok (.invokevirtual 332, 3) := by decide +kernel
theorem dX11_borrowed_102 : decode cX11_borrowed 102 = .ok (.if_icmp .gt 19, 3) := by decide +kernel
theorem dX11_borrowed_105 : decode cX11_borrowed 105 = .ok (.aload_n 0, 1) := by decide +kernel
theorem dX11_borrowed_106 : decode cX11_borrowed 106 = .ok (.getfield 85, 3) := by decide +kernel
theorem dX11_borrowed_109 : decode cX11_borrowed 109 = .ok (.iload_n 1, 1) := by decide +kernel
theorem dX11_borrowed_110 : decode cX11_borrowed 110 = .ok (.iaload, 1) := by decide +kernel
theorem dX11_borrowed_111 : decode cX11_borrowed 111 = .ok (.aload_n 0, 1) := by decide +kernel
theorem dX11_borrowed_112 : decode cX11_borrowed 112 = .ok (.iload_n 2, 1) := by decide +kernel
theorem dX11_borrowed_113 : decode cX11_borrowed 113 = .ok (.invokevirtual 332, 3) := by decide +kernel
theorem dX11_borrowed_116 : decode cX11_borrowed 116 = .ok (.if_icmp .gt 5, 3) := by decide +kernel
theorem dX11_borrowed_119 : decode cX11_borrowed 119 = .ok (.iconst 1, 1) := by decide +kernel
theorem dX11_borrowed_120 : decode cX11_borrowed 120 = .ok (.ireturn, 1) := by decide +kernel
theorem dX11_borrowed_121 : decode cX11_borrowed 121 = .ok (.iinc 2 1, 3) := by decide +kernel
theorem dX11_borrowed_124 : decode cX11_borrowed 124 = .ok (.goto (-61), 3) := by decide +kernel
theorem dX11_borrowed_127 : decode cX11_borrowed 127 = .ok (.iconst 0, 1) := by decide +kernel
theorem dX11_borrowed_128 : decode cX11_borrowed 128 = .ok (.ireturn, 1) := by decide +kernel
theorem in_wsX11_findGroups_X11 : ∀ w ∈ wsX110, w ∈ wsX11_findGroups := fun w h => List.mem_cons_of_mem _ (List.mem_append_right _ h)
theorem in_wsX11_group_X11 : ∀ w ∈ wsX110, w ∈ wsX11_group := fun w h => List.mem_cons_of_mem _ (List.mem_append_right _ h)
theorem in_wsX11_borrowed_X11 : ∀ w ∈ wsX110, w ∈ wsX11_borrowed := fun w h => List.mem_cons_of_mem _ (List.mem_append_right _ h)
/-- the sum of the groups' numbers: it falls with each joining -/
def gsum (f : Nat → Int32) : Nat → Nat
  | 0 => 0
  | n + 1 => gsum f n + (f n).toInt.toNat
theorem gsum_ge {f : Nat → Int32} {k : Nat} {x : Int32} (n : Nat) (h : n ≤ k) : gsum (upd f k x) n = gsum f n := by
  induction n with
  | zero => rfl
  | succ n ih =>
    show gsum (upd f k x) n + (upd f k x n).toInt.toNat = gsum f n + (f n).toInt.toNat
    rw [ih (by omega), show upd f k x n = f n from if_neg (by omega)]
theorem gsum_lt {f : Nat → Int32} {k : Nat} {x : Int32} (hx : 0 ≤ x.toInt) (hl : x.toInt < (f k).toInt) (n : Nat) (h : k < n) : gsum (upd f k x) n < gsum f n := by
  induction n with
  | zero => omega
  | succ n ih =>
    show gsum (upd f k x) n + (upd f k x n).toInt.toNat < gsum f n + (f n).toInt.toNat
    by_cases q : k = n
    · subst q
      rw [gsum_ge k (Nat.le_refl k), show upd f k x k = x from if_pos rfl]
      omega
    · have := ih (by omega)
      rw [show upd f k x n = f n from if_neg (fun e => q e.symm)]
      omega
theorem gsum_F {fz fy : Nat → Nat → Int32} {i k o : Int32} (e : fy = upF fz 52 i.toNatClampNeg k) (h0 : 0 ≤ k.toInt) (hl : k.toInt < (fz 52 i.toNatClampNeg).toInt) (hi : 0 ≤ i.toInt ∧ i.toInt ≤ 39) : gsum (fy 52) 40 < gsum (fz 52) 40 := by
  rw [e, show upF fz 52 i.toNatClampNeg k 52 = upd (fz 52) i.toNatClampNeg k from if_pos rfl]
  exact gsum_lt h0 hl 40 (by show i.toInt.toNat < 40; omega)