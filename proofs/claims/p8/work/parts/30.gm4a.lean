abbrev cX11_findGroups : ByteArray := prog_13_method_68_code
def yX11_findGroups : MethodName := ⟨RX11, "findGroups", "()V"⟩
abbrev cX11_group : ByteArray := prog_13_method_69_code
def yX11_group : MethodName := ⟨RX11, "group", "(I)I"⟩
abbrev cX11_borrowed : ByteArray := prog_13_method_71_code
def yX11_borrowed : MethodName := ⟨RX11, "borrowed", "(I)I"⟩
theorem gw_X11_isAlike : wsX11_isAlike.all goodWord = true := by decide +kernel
def wsX11_findGroups : List Cond := .code yX11_findGroups cX11_findGroups 4 none :: ([.fieldLink RX11 157 "ShipOfficeModel" "men" "I", .fieldLink RX11 131 "ShipOfficeModel" "groups" "[I", .methodLink RX11 326 yX11_isAlike, .instanceMethod yX11_isAlike, .selects RX11 yX11_isAlike yX11_isAlike, .initialized RX11, .code yX11_isAlike cX11_isAlike 7 (some .boolean), .fieldLink RX11 19 "ShipOfficeModel" "marks" "[I", .fieldLink RX11 16 "ShipOfficeModel" "name" "[I"] ++ wsX110)
theorem gw_X11_findGroups : wsX11_findGroups.all goodWord = true := by decide +kernel
theorem il_X11_findGroups_1 : ∀ w ∈ ([.fieldLink RX11 157 "ShipOfficeModel" "men" "I", .fieldLink RX11 131 "ShipOfficeModel" "groups" "[I", .methodLink RX11 326 yX11_isAlike, .instanceMethod yX11_isAlike, .selects RX11 yX11_isAlike yX11_isAlike, .initialized RX11, .code yX11_isAlike cX11_isAlike 7 (some .boolean), .fieldLink RX11 19 "ShipOfficeModel" "marks" "[I", .fieldLink RX11 16 "ShipOfficeModel" "name" "[I"] : List Cond), w ∈ wsX11_findGroups := fun w h => (List.mem_cons_of_mem _ (List.mem_append_left _ h))
theorem il_X11_findGroups_2 : ∀ w ∈ wsX110, w ∈ wsX11_findGroups := fun w h => (List.mem_cons_of_mem _ (List.mem_append_right _ h))
theorem iw_X11_findGroups_1 : Cond.fieldLink RX11 157 "ShipOfficeModel" "men" "I" ∈ wsX11_findGroups := (mmI il_X11_findGroups_1 0 rfl)
theorem iw_X11_findGroups_2 : Cond.fieldLink RX11 131 "ShipOfficeModel" "groups" "[I" ∈ wsX11_findGroups := (mmI il_X11_findGroups_1 1 rfl)
def wsX11_group_r1 : List Cond := [Cond.fieldLink RX11 131 "ShipOfficeModel" "groups" "[I", Cond.methodLink RX11 297 yX11_isMan, Cond.instanceMethod yX11_isMan, Cond.selects RX11 yX11_isMan yX11_isMan, Cond.initialized RX11, Cond.code yX11_isMan cX11_isMan 2 (some .boolean), Cond.fieldLink RX11 157 "ShipOfficeModel" "men" "I", Cond.methodLink RX11 161 yX11_isIn, Cond.static yX11_isIn, Cond.code yX11_isIn cX11_isIn 2 (some .boolean), Cond.methodLink RX11 153 yX11_refuse, Cond.instanceMethod yX11_refuse, Cond.selects RX11 yX11_refuse yX11_refuse, Cond.code yX11_refuse cX11_refuse 2 (some .int), Cond.fieldLink RX11 7 "ShipOfficeModel" "refusals" "[I", Cond.methodLink RX11 329 yX11_findGroups, Cond.instanceMethod yX11_findGroups, Cond.selects RX11 yX11_findGroups yX11_findGroups, Cond.code yX11_findGroups cX11_findGroups 4 none, Cond.methodLink RX11 326 yX11_isAlike, Cond.instanceMethod yX11_isAlike, Cond.selects RX11 yX11_isAlike yX11_isAlike, Cond.code yX11_isAlike cX11_isAlike 7 (some .boolean), Cond.fieldLink RX11 19 "ShipOfficeModel" "marks" "[I"]
def wsX11_group_r2 : List Cond := [Cond.fieldLink RX11 16 "ShipOfficeModel" "name" "[I"]
def wsX11_group : List Cond := .code yX11_group cX11_group 2 (some .int) :: ((wsX11_group_r1 ++ wsX11_group_r2) ++ wsX110)
theorem il_X11_group_1 : ∀ w ∈ wsX11_group_r1, w ∈ wsX11_group := fun w h => (List.mem_cons_of_mem _ (List.mem_append_left _ (List.mem_append_left _ h)))
theorem il_X11_group_2 : ∀ w ∈ wsX11_group_r2, w ∈ wsX11_group := fun w h => (List.mem_cons_of_mem _ (List.mem_append_left _ (List.mem_append_right _ h)))
theorem il_X11_group_3 : ∀ w ∈ wsX110, w ∈ wsX11_group := fun w h => (List.mem_cons_of_mem _ (List.mem_append_right _ h))
theorem iw_X11_group_1 : Cond.fieldLink RX11 131 "ShipOfficeModel" "groups" "[I" ∈ wsX11_group := (mmI il_X11_group_1 0 rfl)
theorem gw_X11_endOf : wsX11_endOf.all goodWord = true := by decide +kernel
def wsX11_borrowed_r1 : List Cond := [Cond.fieldLink RX11 82 "ShipOfficeModel" "paper" "[I", Cond.fieldLink RX11 131 "ShipOfficeModel" "groups" "[I", Cond.fieldLink RX11 70 "ShipOfficeModel" "man" "[I", Cond.fieldLink RX11 168 "ShipOfficeModel" "agreements" "I", Cond.fieldLink RX11 85 "ShipOfficeModel" "signed" "[I", Cond.methodLink RX11 199 yX11_isAgreement, Cond.instanceMethod yX11_isAgreement, Cond.selects RX11 yX11_isAgreement yX11_isAgreement, Cond.initialized RX11, Cond.code yX11_isAgreement cX11_isAgreement 2 (some .boolean), Cond.methodLink RX11 161 yX11_isIn, Cond.static yX11_isIn, Cond.code yX11_isIn cX11_isIn 2 (some .boolean), Cond.methodLink RX11 153 yX11_refuse, Cond.instanceMethod yX11_refuse, Cond.selects RX11 yX11_refuse yX11_refuse, Cond.code yX11_refuse cX11_refuse 2 (some .int), Cond.fieldLink RX11 7 "ShipOfficeModel" "refusals" "[I", Cond.methodLink RX11 329 yX11_findGroups, Cond.instanceMethod yX11_findGroups, Cond.selects RX11 yX11_findGroups yX11_findGroups, Cond.code yX11_findGroups cX11_findGroups 4 none, Cond.fieldLink RX11 157 "ShipOfficeModel" "men" "I", Cond.methodLink RX11 326 yX11_isAlike]
def wsX11_borrowed_r2 : List Cond := [Cond.instanceMethod yX11_isAlike, Cond.selects RX11 yX11_isAlike yX11_isAlike, Cond.code yX11_isAlike cX11_isAlike 7 (some .boolean), Cond.fieldLink RX11 19 "ShipOfficeModel" "marks" "[I", Cond.fieldLink RX11 16 "ShipOfficeModel" "name" "[I", Cond.methodLink RX11 332 yX11_endOf, Cond.instanceMethod yX11_endOf, Cond.selects RX11 yX11_endOf yX11_endOf, Cond.code yX11_endOf cX11_endOf 2 (some .int), Cond.fieldLink RX11 88 "ShipOfficeModel" "offOn" "[I", Cond.fieldLink RX11 171 "ShipOfficeModel" "now" "I"]
def wsX11_borrowed : List Cond := .code yX11_borrowed cX11_borrowed 3 (some .int) :: ((wsX11_borrowed_r1 ++ wsX11_borrowed_r2) ++ wsX110)
theorem il_X11_borrowed_1 : ∀ w ∈ wsX11_borrowed_r1, w ∈ wsX11_borrowed := fun w h => (List.mem_cons_of_mem _ (List.mem_append_left _ (List.mem_append_left _ h)))
theorem il_X11_borrowed_2 : ∀ w ∈ wsX11_borrowed_r2, w ∈ wsX11_borrowed := fun w h => (List.mem_cons_of_mem _ (List.mem_append_left _ (List.mem_append_right _ h)))
theorem il_X11_borrowed_3 : ∀ w ∈ wsX110, w ∈ wsX11_borrowed := fun w h => (List.mem_cons_of_mem _ (List.mem_append_right _ h))
theorem iw_X11_borrowed_1 : Cond.fieldLink RX11 82 "ShipOfficeModel" "paper" "[I" ∈ wsX11_borrowed := (mmI il_X11_borrowed_1 0 rfl)
theorem iw_X11_borrowed_2 : Cond.fieldLink RX11 131 "ShipOfficeModel" "groups" "[I" ∈ wsX11_borrowed := (mmI il_X11_borrowed_1 1 rfl)
theorem iw_X11_borrowed_3 : Cond.fieldLink RX11 70 "ShipOfficeModel" "man" "[I" ∈ wsX11_borrowed := (mmI il_X11_borrowed_1 2 rfl)
theorem iw_X11_borrowed_4 : Cond.fieldLink RX11 168 "ShipOfficeModel" "agreements" "I" ∈ wsX11_borrowed := (mmI il_X11_borrowed_1 3 rfl)
theorem iw_X11_borrowed_5 : Cond.fieldLink RX11 85 "ShipOfficeModel" "signed" "[I" ∈ wsX11_borrowed := (mmI il_X11_borrowed_1 4 rfl)
set_option maxRecDepth 100000 in
theorem ggX11_findGroups_X11_isAlike : GoodIn wsX11_findGroups wsX11_isAlike := goodIn_sub (mmC (mmI il_X11_findGroups_1 6 rfl) (mmA (mmC (mmI il_X11_findGroups_1 7 rfl) (mmC (mmI il_X11_findGroups_1 8 rfl) mmN)) il_X11_findGroups_2)) gw_X11_isAlike
theorem gX11_findGroups_X11_isAlike : GoodIn wsX11_findGroups (wsV RX11 326 RX11 yX11_isAlike wsX11_isAlike) := goodIn_app (goodIn_sub (mmC (mmI il_X11_findGroups_1 2 rfl) (mmC (mmI il_X11_findGroups_1 3 rfl) (mmC (mmI il_X11_findGroups_1 4 rfl) (mmC (mmI il_X11_findGroups_1 5 rfl) mmN)))) (by decide +kernel)) ggX11_findGroups_X11_isAlike
theorem dX11_findGroups_0 : decode cX11_findGroups 0 = .ok (.iconst 0, 1) := by decide +kernel
theorem dX11_findGroups_1 : decode cX11_findGroups 1 = .ok (.istore_n 1, 1) := by decide +kernel
theorem dX11_findGroups_2 : decode cX11_findGroups 2 = .ok (.iload_n 1, 1) := by decide +kernel
theorem dX11_findGroups_3 : decode cX11_findGroups 3 = .ok (.aload_n 0, 1) := by decide +kernel
theorem dX11_findGroups_4 : decode cX11_findGroups 4 = .ok (.getfield 157, 3) := by decide +kernel
theorem dX11_findGroups_7 : decode cX11_findGroups 7 = .ok (.if_icmp .ge 16, 3) := by decide +kernel
theorem dX11_findGroups_10 : decode cX11_findGroups 10 = .ok (.aload_n 0, 1) := by decide +kernel
theorem dX11_findGroups_11 : decode cX11_findGroups 11 = .ok (.getfield 131, 3) := by decide +kernel
theorem dX11_findGroups_14 : decode cX11_findGroups 14 = .ok (.iload_n 1, 1) := by decide +kernel
theorem dX11_findGroups_15 : decode cX11_findGroups 15 = .ok (.iload_n 1, 1) := by decide +kernel
theorem dX11_findGroups_16 : decode cX11_findGroups 16 = .ok (.iastore, 1) := by decide +kernel
theorem dX11_findGroups_17 : decode cX11_findGroups 17 = .ok (.iinc 1 1, 3) := by decide +kernel
theorem dX11_findGroups_20 : decode cX11_findGroups 20 = .ok (.goto (-18), 3) := by decide +kernel
theorem dX11_findGroups_23 : decode cX11_findGroups 23 = .ok (.iconst 1, 1) := by decide +kernel
theorem dX11_findGroups_24 : decode cX11_findGroups 24 = .ok (.istore_n 1, 1) := by decide +kernel
theorem dX11_findGroups_25 : decode cX11_findGroups 25 = .ok (.iload_n 1, 1) := by decide +kernel
theorem dX11_findGroups_26 : decode cX11_findGroups 26 = .ok (.ifCond .eq 81, 3) := by decide +kernel
theorem dX11_findGroups_29 : decode cX11_findGroups 29 = .ok (.iconst 0, 1) := by decide +kernel
theorem dX11_findGroups_30 : decode cX11_findGroups 30 = .ok (.istore_n 1, 1) := by decide +kernel
theorem dX11_findGroups_31 : decode cX11_findGroups 31 = .ok (.iconst 0, 1) := by decide +kernel
theorem dX11_findGroups_32 : decode cX11_findGroups 32 = .ok (.istore_n 2, 1) := by decide +kernel
theorem dX11_findGroups_33 : decode cX11_findGroups 33 = .ok (.iload_n 2, 1) := by decide +kernel
theorem dX11_findGroups_34 : decode cX11_findGroups 34 = .ok (.aload_n 0, 1) := by decide +kernel
theorem dX11_findGroups_35 : decode cX11_findGroups 35 = .ok (.getfield 157, 3) := by decide +kernel
theorem dX11_findGroups_38 : decode cX11_findGroups 38 = .ok (.if_icmp .ge 66, 3) := by decide +kernel
theorem dX11_findGroups_41 : decode cX11_findGroups 41 = .ok (.iconst 0, 1) := by decide +kernel
theorem dX11_findGroups_42 : decode cX11_findGroups 42 = .ok (.istore_n 3, 1) := by decide +kernel
theorem dX11_findGroups_43 : decode cX11_findGroups 43 = .ok (.iload_n 3, 1) := by decide +kernel
theorem dX11_findGroups_44 : decode cX11_findGroups 44 = .ok (.aload_n 0, 1) := by decide +kernel
theorem dX11_findGroups_45 : decode cX11_findGroups 45 = .ok (.getfield 157, 3) := by decide +kernel
theorem dX11_findGroups_48 : decode cX11_findGroups 48 = .ok (.if_icmp .ge 50, 3) := by decide +kernel
theorem dX11_findGroups_51 : decode cX11_findGroups 51 = .ok (.aload_n 0, 1) := by decide +kernel
theorem dX11_findGroups_52 : decode cX11_findGroups 52 = .ok (.getfield 131, 3) := by decide +kernel
theorem dX11_findGroups_55 : decode cX11_findGroups 55 = .ok (.iload_n 3, 1) := by decide +kernel
theorem dX11_findGroups_56 : decode cX11_findGroups 56 = .ok (.iaload, 1) := by decide +kernel
theorem dX11_findGroups_57 : decode cX11_findGroups 57 = .ok (.aload_n 0, 1) := by decide +kernel
theorem dX11_findGroups_58 : decode cX11_findGroups 58 = .ok (.getfield 131, 3) := by decide +kernel
theorem dX11_findGroups_61 : decode cX11_findGroups 61 = .ok (.iload_n 2, 1) := by decide +kernel
theorem dX11_findGroups_62 : decode cX11_findGroups 62 = .ok (.iaload, 1) := by decide +kernel
theorem dX11_findGroups_63 : decode cX11_findGroups 63 = .ok (.if_icmp .ge 29, 3) := by decide +kernel
theorem dX11_findGroups_66 : decode cX11_findGroups 66 = .ok (.aload_n 0, 1) := by decide +kernel
theorem dX11_findGroups_67 : decode cX11_findGroups 67 = .ok (.iload_n 2, 1) := by decide +kernel
theorem dX11_findGroups_68 : decode cX11_findGroups 68 = .ok (.iload_n 3, 1) := by decide +kernel
theorem dX11_findGroups_69 : decode cX11_findGroups 69 = .ok (.invokevirtual 326, 3) := by decide +kernel
theorem dX11_findGroups_72 : decode cX11_findGroups 72 = .ok (.ifCond .ne 6, 3) := by decide +kernel
theorem dX11_findGroups_75 : decode cX11_findGroups 75 = .ok (.goto 17, 3) := by decide +kernel
theorem dX11_findGroups_78 : decode cX11_findGroups 78 = .ok (.aload_n 0, 1) := by decide +kernel
theorem dX11_findGroups_79 : decode cX11_findGroups 79 = .ok (.getfield 131, 3) := by decide +kernel
theorem dX11_findGroups_82 : decode cX11_findGroups 82 = .ok (.iload_n 2, 1) := by decide +kernel
theorem dX11_findGroups_83 : decode cX11_findGroups 83 = .ok (.aload_n 0, 1) := by decide +kernel
theorem dX11_findGroups_84 : decode cX11_findGroups 84 = .ok (.getfield 131, 3) := by decide +kernel
theorem dX11_findGroups_87 : decode cX11_findGroups 87 = .ok (.iload_n 3, 1) := by decide +kernel
theorem dX11_findGroups_88 : decode cX11_findGroups 88 = .ok (.iaload, 1) := by decide +kernel
theorem dX11_findGroups_89 : decode cX11_findGroups 89 = .ok (.iastore, 1) := by decide +kernel
theorem dX11_findGroups_90 : decode cX11_findGroups 90 = .ok (.iconst 1, 1) := by decide +kernel
theorem dX11_findGroups_91 : decode cX11_findGroups 91 = .ok (.istore_n 1, 1) := by decide +kernel
theorem dX11_findGroups_92 : decode cX11_findGroups 92 = .ok (.iinc 3 1, 3) := by decide +kernel
theorem dX11_findGroups_95 : decode cX11_findGroups 95 = .ok (.goto (-52), 3) := by decide +kernel
theorem dX11_findGroups_98 : decode cX11_findGroups 98 = .ok (.iinc 2 1, 3) := by decide +kernel
theorem dX11_findGroups_101 : decode cX11_findGroups 101 = .ok (.goto (-68), 3) := by decide +kernel
theorem dX11_findGroups_104 : decode cX11_findGroups 104 = .ok (.goto (-79), 3) := by decide +kernel
theorem dX11_findGroups_107 : decode cX11_findGroups 107 = .ok (.return_, 1) := by decide +kernel
set_option maxRecDepth 100000 in
theorem ggX11_group_X11_isMan : GoodIn wsX11_group wsX11_isMan := goodIn_sub (mmC (mmI il_X11_group_1 5 rfl) (mmA (mmC (mmI il_X11_group_1 6 rfl) (mmC (mmI il_X11_group_1 7 rfl) (mmC (mmI il_X11_group_1 8 rfl) (mmC (mmI il_X11_group_1 4 rfl) (mmC (mmI il_X11_group_1 9 rfl) mmN))))) il_X11_group_3)) gw_X11_isMan
theorem gX11_group_X11_isMan : GoodIn wsX11_group (wsV RX11 297 RX11 yX11_isMan wsX11_isMan) := goodIn_app (goodIn_sub (mmC (mmI il_X11_group_1 1 rfl) (mmC (mmI il_X11_group_1 2 rfl) (mmC (mmI il_X11_group_1 3 rfl) (mmC (mmI il_X11_group_1 4 rfl) mmN)))) (by decide +kernel)) ggX11_group_X11_isMan
set_option maxRecDepth 100000 in
theorem ggX11_group_X11_refuse : GoodIn wsX11_group wsX11_refuse := goodIn_sub (mmC (mmI il_X11_group_1 13 rfl) (mmA (mmC (mmI il_X11_group_1 14 rfl) mmN) il_X11_group_3)) gw_X11_refuse
theorem gX11_group_X11_refuse : GoodIn wsX11_group (wsV RX11 153 RX11 yX11_refuse wsX11_refuse) := goodIn_app (goodIn_sub (mmC (mmI il_X11_group_1 10 rfl) (mmC (mmI il_X11_group_1 11 rfl) (mmC (mmI il_X11_group_1 12 rfl) (mmC (mmI il_X11_group_1 4 rfl) mmN)))) (by decide +kernel)) ggX11_group_X11_refuse
set_option maxRecDepth 100000 in
theorem ggX11_group_X11_findGroups : GoodIn wsX11_group wsX11_findGroups := goodIn_sub (mmC (mmI il_X11_group_1 18 rfl) (mmA (mmC (mmI il_X11_group_1 6 rfl) (mmC (mmI il_X11_group_1 0 rfl) (mmC (mmI il_X11_group_1 19 rfl) (mmC (mmI il_X11_group_1 20 rfl) (mmC (mmI il_X11_group_1 21 rfl) (mmC (mmI il_X11_group_1 4 rfl) (mmC (mmI il_X11_group_1 22 rfl) (mmC (mmI il_X11_group_1 23 rfl) (mmC (mmI il_X11_group_2 0 rfl) mmN))))))))) il_X11_group_3)) gw_X11_findGroups
theorem gX11_group_X11_findGroups : GoodIn wsX11_group (wsV RX11 329 RX11 yX11_findGroups wsX11_findGroups) := goodIn_app (goodIn_sub (mmC (mmI il_X11_group_1 15 rfl) (mmC (mmI il_X11_group_1 16 rfl) (mmC (mmI il_X11_group_1 17 rfl) (mmC (mmI il_X11_group_1 4 rfl) mmN)))) (by decide +kernel)) ggX11_group_X11_findGroups
theorem dX11_group_0 : decode cX11_group 0 = .ok (.aload_n 0, 1) := by decide +kernel
theorem dX11_group_1 : decode cX11_group 1 = .ok (.iload_n 1, 1) := by decide +kernel
theorem dX11_group_2 : decode cX11_group 2 = .ok (.invokevirtual 297, 3) := by decide +kernel
theorem dX11_group_5 : decode cX11_group 5 = .ok (.ifCond .ne 9, 3) := by decide +kernel
theorem dX11_group_8 : decode cX11_group 8 = .ok (.aload_n 0, 1) := by decide +kernel
theorem dX11_group_9 : decode cX11_group 9 = .ok (.iconst (-1), 1) := by decide +kernel
theorem dX11_group_10 : decode cX11_group 10 = .ok (.invokevirtual 153, 3) := by decide +kernel
theorem dX11_group_13 : decode cX11_group 13 = .ok (.ireturn, 1) := by decide +kernel
theorem dX11_group_14 : decode cX11_group 14 = .ok (.aload_n 0, 1) := by decide +kernel
theorem dX11_group_15 : decode cX11_group 15 = .ok (.invokevirtual 329, 3) := by decide +kernel
theorem dX11_group_18 : decode cX11_group 18 = .ok (.aload_n 0, 1) := by decide +kernel
theorem dX11_group_19 : decode cX11_group 19 = .ok (.getfield 131, 3) := by decide +kernel
theorem dX11_group_22 : decode cX11_group 22 = .ok (.iload_n 1, 1) := by decide +kernel
theorem dX11_group_23 : decode cX11_group 23 = .ok (.iaload, 1) := by decide +kernel
theorem dX11_group_24 : decode cX11_group 24 = .ok (.ireturn, 1) := by decide +kernel
set_option maxRecDepth 100000 in
theorem ggX11_borrowed_X11_isAgreement : GoodIn wsX11_borrowed wsX11_isAgreement := goodIn_sub (mmC (mmI il_X11_borrowed_1 9 rfl) (mmA (mmC (mmI il_X11_borrowed_1 3 rfl) (mmC (mmI il_X11_borrowed_1 10 rfl) (mmC (mmI il_X11_borrowed_1 11 rfl) (mmC (mmI il_X11_borrowed_1 8 rfl) (mmC (mmI il_X11_borrowed_1 12 rfl) mmN))))) il_X11_borrowed_3)) gw_X11_isAgreement
theorem gX11_borrowed_X11_isAgreement : GoodIn wsX11_borrowed (wsV RX11 199 RX11 yX11_isAgreement wsX11_isAgreement) := goodIn_app (goodIn_sub (mmC (mmI il_X11_borrowed_1 5 rfl) (mmC (mmI il_X11_borrowed_1 6 rfl) (mmC (mmI il_X11_borrowed_1 7 rfl) (mmC (mmI il_X11_borrowed_1 8 rfl) mmN)))) (by decide +kernel)) ggX11_borrowed_X11_isAgreement
set_option maxRecDepth 100000 in
theorem ggX11_borrowed_X11_refuse : GoodIn wsX11_borrowed wsX11_refuse := goodIn_sub (mmC (mmI il_X11_borrowed_1 16 rfl) (mmA (mmC (mmI il_X11_borrowed_1 17 rfl) mmN) il_X11_borrowed_3)) gw_X11_refuse
theorem gX11_borrowed_X11_refuse : GoodIn wsX11_borrowed (wsV RX11 153 RX11 yX11_refuse wsX11_refuse) := goodIn_app (goodIn_sub (mmC (mmI il_X11_borrowed_1 13 rfl) (mmC (mmI il_X11_borrowed_1 14 rfl) (mmC (mmI il_X11_borrowed_1 15 rfl) (mmC (mmI il_X11_borrowed_1 8 rfl) mmN)))) (by decide +kernel)) ggX11_borrowed_X11_refuse
set_option maxRecDepth 100000 in
theorem ggX11_borrowed_X11_findGroups : GoodIn wsX11_borrowed wsX11_findGroups := goodIn_sub (mmC (mmI il_X11_borrowed_1 21 rfl) (mmA (mmC (mmI il_X11_borrowed_1 22 rfl) (mmC (mmI il_X11_borrowed_1 1 rfl) (mmC (mmI il_X11_borrowed_1 23 rfl) (mmC (mmI il_X11_borrowed_2 0 rfl) (mmC (mmI il_X11_borrowed_2 1 rfl) (mmC (mmI il_X11_borrowed_1 8 rfl) (mmC (mmI il_X11_borrowed_2 2 rfl) (mmC (mmI il_X11_borrowed_2 3 rfl) (mmC (mmI il_X11_borrowed_2 4 rfl) mmN))))))))) il_X11_borrowed_3)) gw_X11_findGroups
theorem gX11_borrowed_X11_findGroups : GoodIn wsX11_borrowed (wsV RX11 329 RX11 yX11_findGroups wsX11_findGroups) := goodIn_app (goodIn_sub (mmC (mmI il_X11_borrowed_1 18 rfl) (mmC (mmI il_X11_borrowed_1 19 rfl) (mmC (mmI il_X11_borrowed_1 20 rfl) (mmC (mmI il_X11_borrowed_1 8 rfl) mmN)))) (by decide +kernel)) ggX11_borrowed_X11_findGroups
set_option maxRecDepth 100000 in
theorem ggX11_borrowed_X11_endOf : GoodIn wsX11_borrowed wsX11_endOf := goodIn_sub (mmC (mmI il_X11_borrowed_2 8 rfl) (mmA (mmC (mmI il_X11_borrowed_2 9 rfl) (mmC (mmI il_X11_borrowed_2 10 rfl) mmN)) il_X11_borrowed_3)) gw_X11_endOf
theorem gX11_borrowed_X11_endOf : GoodIn wsX11_borrowed (wsV RX11 332 RX11 yX11_endOf wsX11_endOf) := goodIn_app (goodIn_sub (mmC (mmI il_X11_borrowed_2 5 rfl) (mmC (mmI il_X11_borrowed_2 6 rfl) (mmC (mmI il_X11_borrowed_2 7 rfl) (mmC (mmI il_X11_borrowed_1 8 rfl) mmN)))) (by decide +kernel)) ggX11_borrowed_X11_endOf
theorem dX11_borrowed_0 : decode cX11_borrowed 0 = .ok (.aload_n 0, 1) := by decide +kernel
theorem dX11_borrowed_1 : decode cX11_borrowed 1 = .ok (.iload_n 1, 1) := by decide +kernel
theorem dX11_borrowed_2 : decode cX11_borrowed 2 = .ok (.invokevirtual 199, 3) := by decide +kernel
theorem dX11_borrowed_5 : decode cX11_borrowed 5 = .ok (.ifCond .ne 9, 3) := by decide +kernel
theorem dX11_borrowed_8 : decode cX11_borrowed 8 = .ok (.aload_n 0, 1) := by decide +kernel
theorem dX11_borrowed_9 : decode cX11_borrowed 9 = .ok (.iconst (-1), 1) := by decide +kernel
theorem dX11_borrowed_10 : decode cX11_borrowed 10 = .ok (.invokevirtual 153, 3) := by decide +kernel
theorem dX11_borrowed_13 : decode cX11_borrowed 13 = .ok (.ireturn, 1) := by decide +kernel
theorem dX11_borrowed_14 : decode cX11_borrowed 14 = .ok (.aload_n 0, 1) := by decide +kernel
theorem dX11_borrowed_15 : decode cX11_borrowed 15 = .ok (.getfield 82, 3) := by decide +kernel
theorem dX11_borrowed_18 : decode cX11_borrowed 18 = .ok (.iload_n 1, 1) := by decide +kernel
theorem dX11_borrowed_19 : decode cX11_borrowed 19 = .ok (.iaload, 1) := by decide +kernel
theorem dX11_borrowed_20 : decode cX11_borrowed 20 = .ok (.ifCond .ge 5, 3) := by decide +kernel
theorem dX11_borrowed_23 : decode cX11_borrowed 23 = .ok (.iconst 0, 1) := by decide +kernel
theorem dX11_borrowed_24 : decode cX11_borrowed 24 = .ok (.ireturn, 1) := by decide +kernel
theorem dX11_borrowed_25 : decode cX11_borrowed 25 = .ok (.aload_n 0, 1) := by decide +kernel
theorem dX11_borrowed_26 : decode cX11_borrowed 26 = .ok (.invokevirtual 329, 3) := by decide +kernel
theorem dX11_borrowed_29 : decode cX11_borrowed 29 = .ok (.aload_n 0, 1) := by decide +kernel
theorem dX11_borrowed_30 : decode cX11_borrowed 30 = .ok (.getfield 131, 3) := by decide +kernel
theorem dX11_borrowed_33 : decode cX11_borrowed 33 = .ok (.aload_n 0, 1) := by decide +kernel
theorem dX11_borrowed_34 : decode cX11_borrowed 34 = .ok (.getfield 70, 3) := by decide +kernel
theorem dX11_borrowed_37 : decode cX11_borrowed 37 = .ok (.aload_n 0, 1) := by decide +kernel
theorem dX11_borrowed_38 : decode cX11_borrowed 38 = .ok (.getfield 82, 3) := by decide +kernel
theorem dX11_borrowed_41 : decode cX11_borrowed 41 = .ok (.iload_n 1, 1) := by decide +kernel
theorem dX11_borrowed_42 : decode cX11_borrowed 42 = .ok (.iaload, 1) := by decide +kernel
theorem dX11_borrowed_43 : decode cX11_borrowed 43 = .ok (.iaload, 1) := by decide +kernel
theorem dX11_borrowed_44 : decode cX11_borrowed 44 = .ok (.iaload, 1) := by decide +kernel
theorem dX11_borrowed_45 : decode cX11_borrowed 45 = .ok (.aload_n 0, 1) := by decide +kernel
theorem dX11_borrowed_46 : decode cX11_borrowed 46 = .ok (.getfield 131, 3) := by decide +kernel
theorem dX11_borrowed_49 : decode cX11_borrowed 49 = .ok (.aload_n 0, 1) := by decide +kernel
theorem dX11_borrowed_50 : decode cX11_borrowed 50 = .ok (.getfield 70, 3) := by decide +kernel
theorem dX11_borrowed_53 : decode cX11_borrowed 53 = .ok (.iload_n 1, 1) := by decide +kernel
theorem dX11_borrowed_54 : decode cX11_borrowed 54 = .ok (.iaload, 1) := by decide +kernel
theorem dX11_borrowed_55 : decode cX11_borrowed 55 = .ok (.iaload, 1) := by decide +kernel
theorem dX11_borrowed_56 : decode cX11_borrowed 56 = .ok (.if_icmp .eq 5, 3) := by decide +kernel
theorem dX11_borrowed_59 : decode cX11_borrowed 59 = .ok (.iconst 1, 1) := by decide +kernel
theorem dX11_borrowed_60 : decode cX11_borrowed 60 = .ok (.ireturn, 1) := by decide +kernel
theorem dX11_borrowed_61 : decode cX11_borrowed 61 = .ok (.iconst 0, 1) := by decide +kernel
theorem dX11_borrowed_62 : decode cX11_borrowed 62 = .ok (.istore_n 2, 1) := by decide +kernel
theorem dX11_borrowed_63 : decode cX11_borrowed 63 = .ok (.iload_n 2, 1) := by decide +kernel
theorem dX11_borrowed_64 : decode cX11_borrowed 64 = .ok (.aload_n 0, 1) := by decide +kernel
theorem dX11_borrowed_65 : decode cX11_borrowed 65 = .ok (.getfield 168, 3) := by decide +kernel
theorem dX11_borrowed_68 : decode cX11_borrowed 68 = .ok (.if_icmp .ge 59, 3) := by decide +kernel
theorem dX11_borrowed_71 : decode cX11_borrowed 71 = .ok (.iload_n 2, 1) := by decide +kernel
theorem dX11_borrowed_72 : decode cX11_borrowed 72 = .ok (.iload_n 1, 1) := by decide +kernel
theorem dX11_borrowed_73 : decode cX11_borrowed 73 = .ok (.if_icmp .eq 48, 3) := by decide +kernel
theorem dX11_borrowed_76 : decode cX11_borrowed 76 = .ok (.aload_n 0, 1) := by decide +kernel
theorem dX11_borrowed_77 : decode cX11_borrowed 77 = .ok (.getfield 82, 3) := by decide +kernel
theorem dX11_borrowed_80 : decode cX11_borrowed 80 = .ok (.iload_n 2, 1) := by decide +kernel
theorem dX11_borrowed_81 : decode cX11_borrowed 81 = .ok (.iaload, 1) := by decide +kernel
theorem dX11_borrowed_82 : decode cX11_borrowed 82 = .ok (.aload_n 0, 1) := by decide +kernel
theorem dX11_borrowed_83 : decode cX11_borrowed 83 = .ok (.getfield 82, 3) := by decide +kernel
theorem dX11_borrowed_86 : decode cX11_borrowed 86 = .ok (.iload_n 1, 1) := by decide +kernel
theorem dX11_borrowed_87 : decode cX11_borrowed 87 = .ok (.iaload, 1) := by decide +kernel
theorem dX11_borrowed_88 : decode cX11_borrowed 88 = .ok (.if_icmp .ne 33, 3) := by decide +kernel
theorem dX11_borrowed_91 : decode cX11_borrowed 91 = .ok (.aload_n 0, 1) := by decide +kernel
theorem dX11_borrowed_92 : decode cX11_borrowed 92 = .ok (.getfield 85, 3) := by decide +kernel
theorem dX11_borrowed_95 : decode cX11_borrowed 95 = .ok (.iload_n 2, 1) := by decide +kernel
theorem dX11_borrowed_96 : decode cX11_borrowed 96 = .ok (.iaload, 1) := by decide +kernel
theorem dX11_borrowed_97 : decode cX11_borrowed 97 = .ok (.aload_n 0, 1) := by decide +kernel
theorem dX11_borrowed_98 : decode cX11_borrowed 98 = .ok (.iload_n 1, 1) := by decide +kernel
theorem dX11_borrowed_99 : decode cX11_borrowed 99 = .ok (.invokevirtual 332, 3) := by decide +kernel
theorem dX11_borrowed_102 : decode cX11_borrowed 102 = .ok (.if_icmp .gt 19, 3) := by decide +kernel
theorem dX11_borrowed_105 : decode cX11_borrowed 105 = .ok (.aload_n 0, 1) := by decide +kernel
theorem dX11_borrowed_106 : decode cX11_borrowed 106 = .ok (.getfield 85, 3) := by decide +kernel
theorem dX11_borrowed_109 : decode cX11_borrowed 109 = .ok (.iload_n 1, 1) := by decide +kernel
theorem dX11_borrowed_110 : decode cX11_borrowed 110 = .ok (.iaload, 1) := by decide +kernel
theorem dX11_borrowed_111 : decode cX11_borrowed 111 = .ok (.aload_n 0, 1) := by decide +kernel
theorem dX11_borrowed_112 : decode cX11_borrowed 112 = .ok (.iload_n 2, 1) := by decide +kernel
theorem dX11_borrowed_113 : decode cX11_borrowed 113 = .ok (.invokevirtual 332, 3) := by decide +kernel
theorem dX11_borrowed_116 : decode cX11_borrowed 116 = .ok (.if_icmp .gt 5, 3) := by decide +kernel
theorem dX11_borrowed_119 : decode cX11_borrowed 119 = .ok (.iconst 1, 1) := by decide +kernel
theorem dX11_borrowed_120 : decode cX11_borrowed 120 = .ok (.ireturn, 1) := by decide +kernel
theorem dX11_borrowed_121 : decode cX11_borrowed 121 = .ok (.iinc 2 1, 3) := by decide +kernel
theorem dX11_borrowed_124 : decode cX11_borrowed 124 = .ok (.goto (-61), 3) := by decide +kernel
theorem dX11_borrowed_127 : decode cX11_borrowed 127 = .ok (.iconst 0, 1) := by decide +kernel
theorem dX11_borrowed_128 : decode cX11_borrowed 128 = .ok (.ireturn, 1) := by decide +kernel
theorem in_wsX11_findGroups_X11 : ∀ w ∈ wsX110, w ∈ wsX11_findGroups := fun w h => List.mem_cons_of_mem _ (List.mem_append_right _ h)
theorem in_wsX11_group_X11 : ∀ w ∈ wsX110, w ∈ wsX11_group := fun w h => List.mem_cons_of_mem _ (List.mem_append_right _ h)
theorem in_wsX11_borrowed_X11 : ∀ w ∈ wsX110, w ∈ wsX11_borrowed := fun w h => List.mem_cons_of_mem _ (List.mem_append_right _ h)
/-- the sum of the groups' numbers: it falls with each joining -/
def gsum (f : Nat → Int32) : Nat → Nat
  | 0 => 0
  | n + 1 => gsum f n + (f n).toInt.toNat
theorem gsum_ge {f : Nat → Int32} {k : Nat} {x : Int32} (n : Nat) (h : n ≤ k) : gsum (upd f k x) n = gsum f n := by
  induction n with
  | zero => rfl
  | succ n ih =>
    show gsum (upd f k x) n + (upd f k x n).toInt.toNat = gsum f n + (f n).toInt.toNat
    rw [ih (by omega), show upd f k x n = f n from if_neg (by omega)]
theorem gsum_lt {f : Nat → Int32} {k : Nat} {x : Int32} (hx : 0 ≤ x.toInt) (hl : x.toInt < (f k).toInt) (n : Nat) (h : k < n) : gsum (upd f k x) n < gsum f n := by
  induction n with
  | zero => omega
  | succ n ih =>
    show gsum (upd f k x) n + (upd f k x n).toInt.toNat < gsum f n + (f n).toInt.toNat
    by_cases q : k = n
    · subst q
      rw [gsum_ge k (Nat.le_refl k), show upd f k x k = x from if_pos rfl]
      omega
    · have := ih (by omega)
      rw [show upd f k x n = f n from if_neg (fun e => q e.symm)]
      omega
theorem gsum_F {fz fy : Nat → Nat → Int32} {i k o : Int32} (e : fy = upF fz 52 i.toNatClampNeg k) (h0 : 0 ≤ k.toInt) (hl : k.toInt < (fz 52 i.toNatClampNeg).toInt) (hi : 0 ≤ i.toInt ∧ i.toInt ≤ 39) : gsum (fy 52) 40 < gsum (fz 52) 40 := by
  rw [e, show upF fz 52 i.toNatClampNeg k 52 = upd (fz 52) i.toNatClampNeg k from if_pos rfl]
  exact gsum_lt h0 hl 40 (by show i.toInt.toNat < 40; omega)
set_option maxHeartbeats 4000000 in
set_option maxRecDepth 100000 in
theorem c_X11_findGroups (l : Launch) (dC : Nat → ClassId) (dI : Nat → Nat → Nat) (sz : Nat) (g0 : Nat) (pq : Nat → Nat) (cp : Nat → ClassId) (v : Nat → Int32) (fa : Nat → Nat → Int32) (gV : mV v) (gA : mA fa) : Met l yX11_findGroups wsX11_findGroups ({ frames := 1, cells := 0, slots := 0, locals := 26 }) (va_Pc [.ref g0] (pcW (dC, dI) (mT cp) (mW g0 pq cp v fa) sz)) (va_Qv (fun (u : (Nat → Int32) × (Nat → Nat → Int32)) => mV u.1 ∧ mA u.2 ∧ scr v fa u.1 u.2) (fun u t => va_P (dC, dI) vwCl (mW g0 pq cp u.1 u.2) t.heap ∧ va_K (dC, dI) vwCl (mT cp) t ∧ va_D (va_A (mW g0 pq cp v fa) sz) (mW g0 pq cp u.1 u.2)) (va_A (mW g0 pq cp v fa) sz)) 0 0 (va_A (mW g0 pq cp v fa) sz) := by
  refine Met.ofW (cc := cX11_findGroups) (maxL := 4) (ret := none) (by decide +kernel) rfl ?_
  intro p e s m args below meth c s₁ B hml hv
  obtain ⟨rfl, hsz, hP, hK, hD0⟩ := hv
  have hx := B.exec
  have hb := B.bytes
  have hr := B.returns
  have hts := atoms_spec (ws := wsX11_findGroups) B.pre
  have hown : s.vm.findClass RX11 = some m.cls := findClass_of_methodNamed B.named
  have hlocks := B.notSynchronized
  subst hsz
  have hD := hD0.self (sz := s.heap.size)
  generalize hAe : va_A (mW g0 pq cp v fa) s.heap.size = A at hD ⊢
  have hA : ∀ q : Nat, s.heap.size ≤ q → A q := fun q h => by rw [← hAe]; exact Or.inr h
  have hS : va_S A s.heap s.heap [] := va_S.rf
  have hP : va_P (dC, dI) vwCl (mW g0 pq cp v fa) s.heap := hP
  have hl := lv_entry ([.ref g0]) (n := 4) (Nat.le_of_ble_eq_true rfl)
  rw [lg_entry_eq]
  generalize (lg_sl ([.ref g0]) ++ List.replicate (4 - (lg_sl ([.ref g0])).length) Slot.unset).toArray = ls at hl ⊢
  have hl : lv_has ls 4 [(0, .ref g0)] := hl
  refine lv_iconst (v := 0) hx hb dX11_findGroups_0 (by decide +kernel) ?_
  refine lv_istore_n (lv' := [(1, .int 0), (0, .ref g0)]) hx hb dX11_findGroups_1 rfl hl (by decide +kernel) rfl (fun ls hl => ?_)
  have cut_1 : ∀ (n : Nat) (y_2 : Int32) (z_3 : Nat → Int32) (fz_4 : Nat → Nat → Int32) (H : Heap) (locs : List Loc) (ls : Array Slot), 40 - y_2.toInt ≤ (n : Int) → (0 ≤ y_2.toInt ∧ y_2.toInt ≤ 40) → mV z_3 → mA fz_4 → scr v fa z_3 fz_4 → va_P (dC, dI) vwCl (mW g0 pq cp z_3 fz_4) H → va_D A (mW g0 pq cp z_3 fz_4) → va_S A s.heap H locs → lv_has ls 4 [(1, .int y_2), (0, .ref g0)] → W p l e (headSpec wsX11_findGroups { frames := 1, cells := 0, slots := 0, locals := 26 }).room s m #[Value.ref g0] below meth c H locs 0 0 (MQ below (va_Qv (fun (u : (Nat → Int32) × (Nat → Nat → Int32)) => mV u.1 ∧ mA u.2 ∧ scr v fa u.1 u.2) (fun u t => va_P (dC, dI) vwCl (mW g0 pq cp u.1 u.2) t.heap ∧ va_K (dC, dI) vwCl (mT cp) t ∧ va_D A (mW g0 pq cp u.1 u.2)) A) #[Value.ref g0] s 0 0 A) (F0 m 2 ls []) := by
    intro n
    induction n using Nat.strongRecOn with
    | ind n ih =>
      intro y_2 z_3 fz_4 H locs ls hm hy_2 hVz_3 hAz_3 hRz_3 hP hD hS hl
      refine lv_iload_n hx hb dX11_findGroups_2 rfl (lv_at hl 0 rfl) ?_
      refine lv_aload_n hx hb dX11_findGroups_3 rfl (lv_at hl 1 rfl) ?_
      refine va_get (D := (dC, dI)) (ci := 11) (v := .int (z_3 39)) (C := RX11) (T := TX11) (N := 63) hx hb hts in_wsX11_findGroups_X11 hown hK hP 0 rfl rfl 39 (by decide +kernel) (hts (.fieldLink RX11 157 "ShipOfficeModel" "men" "I") iw_X11_findGroups_1) (fun _ h9 => h9) rfl dX11_findGroups_4 ?_
      refine lv_topi (fun x_5 ex_5 => ?_)
      have hx_5 : 0 ≤ x_5.toInt ∧ x_5.toInt ≤ 40 := iv_of ex_5 (hVz_3 39)
      clear ex_5
      refine lv_icmp_ge (tgt := 23) hx hb dX11_findGroups_7 (by decide +kernel) (fun c_6 => ?_) (fun c_6 => ?_)
      · have dc_6 := c_le (a := x_5.toInt) (b := y_2.toInt) rfl rfl c_6
        refine lv_iconst (v := 1) hx hb dX11_findGroups_23 (by decide +kernel) ?_
        refine lv_istore_n (lv' := [(1, .int 1), (0, .ref g0)]) hx hb dX11_findGroups_24 rfl hl (by decide +kernel) rfl (fun ls hl => ?_)
        have cut_7 : ∀ (n2 : Nat) (y_8 : Int32) (z_9 : Nat → Int32) (fz_10 : Nat → Nat → Int32) (H : Heap) (locs : List Loc) (ls : Array Slot), (gsum (fz_10 52) 40 : Int) + y_8.toInt ≤ (n2 : Int) → (0 ≤ y_8.toInt ∧ y_8.toInt ≤ 1) → mV z_9 → mA fz_10 → scr v fa z_9 fz_10 → va_P (dC, dI) vwCl (mW g0 pq cp z_9 fz_10) H → va_D A (mW g0 pq cp z_9 fz_10) → va_S A s.heap H locs → lv_has ls 4 [(1, .int y_8), (0, .ref g0)] → W p l e (headSpec wsX11_findGroups { frames := 1, cells := 0, slots := 0, locals := 26 }).room s m #[Value.ref g0] below meth c H locs 0 0 (MQ below (va_Qv (fun (u : (Nat → Int32) × (Nat → Nat → Int32)) => mV u.1 ∧ mA u.2 ∧ scr v fa u.1 u.2) (fun u t => va_P (dC, dI) vwCl (mW g0 pq cp u.1 u.2) t.heap ∧ va_K (dC, dI) vwCl (mT cp) t ∧ va_D A (mW g0 pq cp u.1 u.2)) A) #[Value.ref g0] s 0 0 A) (F0 m 25 ls []) := by
          intro n2
          induction n2 using Nat.strongRecOn with
          | ind n2 ih2 =>
            intro y_8 z_9 fz_10 H locs ls hm hy_8 hVz_9 hAz_9 hRz_9 hP hD hS hl
            refine lv_iload_n hx hb dX11_findGroups_25 rfl (lv_at hl 0 rfl) ?_
            refine lv_if_eq (tgt := 107) hx hb dX11_findGroups_26 (by decide +kernel) (fun c_11 => ?_) (fun c_11 => ?_)
            · have dc_11 := c_eq (a := y_8.toInt) (b := 0) rfl (by decide +kernel) c_11
              exact W.vret hx hb hr (fun t ht hW => ⟨⟨(z_9, fz_10), rfl, ⟨hVz_9, hAz_9, hRz_9⟩, ⟨by rw [ht]; exact hP, va_K.moved hW.alike hK, hD⟩⟩, hS.F ht⟩) hS.2.2 dX11_findGroups_107
            · have dc_11 := c_ne (a := y_8.toInt) (b := 0) rfl (by decide +kernel) c_11
              refine lv_iconst (v := 0) hx hb dX11_findGroups_29 (by decide +kernel) ?_
              refine lv_istore_n (lv' := [(1, .int 0), (0, .ref g0)]) hx hb dX11_findGroups_30 rfl hl (by decide +kernel) rfl (fun ls hl => ?_)
              refine lv_iconst (v := 0) hx hb dX11_findGroups_31 (by decide +kernel) ?_
              refine lv_istore_n (lv' := [(2, .int 0), (1, .int 0), (0, .ref g0)]) hx hb dX11_findGroups_32 rfl hl (by decide +kernel) rfl (fun ls hl => ?_)
              have cut_12 : ∀ (n3 : Nat) (y_13 : Int32) (y_14 : Int32) (z_15 : Nat → Int32) (fz_16 : Nat → Nat → Int32) (H : Heap) (locs : List Loc) (ls : Array Slot), 40 - y_14.toInt ≤ (n3 : Int) → (0 ≤ y_13.toInt ∧ y_13.toInt ≤ 1) → (0 ≤ y_14.toInt ∧ y_14.toInt ≤ 40) → (gsum (fz_16 52) 40 : Int) + y_13.toInt ≤ (gsum (fz_10 52) 40 : Int) → mV z_15 → mA fz_16 → scr v fa z_15 fz_16 → va_P (dC, dI) vwCl (mW g0 pq cp z_15 fz_16) H → va_D A (mW g0 pq cp z_15 fz_16) → va_S A s.heap H locs → lv_has ls 4 [(1, .int y_13), (2, .int y_14), (0, .ref g0)] → W p l e (headSpec wsX11_findGroups { frames := 1, cells := 0, slots := 0, locals := 26 }).room s m #[Value.ref g0] below meth c H locs 0 0 (MQ below (va_Qv (fun (u : (Nat → Int32) × (Nat → Nat → Int32)) => mV u.1 ∧ mA u.2 ∧ scr v fa u.1 u.2) (fun u t => va_P (dC, dI) vwCl (mW g0 pq cp u.1 u.2) t.heap ∧ va_K (dC, dI) vwCl (mT cp) t ∧ va_D A (mW g0 pq cp u.1 u.2)) A) #[Value.ref g0] s 0 0 A) (F0 m 33 ls []) := by
                intro n3
                induction n3 using Nat.strongRecOn with
                | ind n3 ih3 =>
                  intro y_13 y_14 z_15 fz_16 H locs ls hm hy_13 hy_14 hq0_cut_12 hVz_15 hAz_15 hRz_15 hP hD hS hl
                  refine lv_iload_n hx hb dX11_findGroups_33 rfl (lv_at hl 1 rfl) ?_
                  refine lv_aload_n hx hb dX11_findGroups_34 rfl (lv_at hl 2 rfl) ?_
                  refine va_get (D := (dC, dI)) (ci := 11) (v := .int (z_15 39)) (C := RX11) (T := TX11) (N := 63) hx hb hts in_wsX11_findGroups_X11 hown hK hP 0 rfl rfl 39 (by decide +kernel) (hts (.fieldLink RX11 157 "ShipOfficeModel" "men" "I") iw_X11_findGroups_1) (fun _ h9 => h9) rfl dX11_findGroups_35 ?_
                  refine lv_topi (fun x_17 ex_17 => ?_)
                  have hx_17 : 0 ≤ x_17.toInt ∧ x_17.toInt ≤ 40 := iv_of ex_17 (hVz_15 39)
                  clear ex_17
                  refine lv_icmp_ge (tgt := 104) hx hb dX11_findGroups_38 (by decide +kernel) (fun c_18 => ?_) (fun c_18 => ?_)
                  · have dc_18 := c_le (a := x_17.toInt) (b := y_14.toInt) rfl rfl c_18
                    refine lv_goto (tgt := 25) hx hb dX11_findGroups_104 (by decide +kernel) ?_
                    exact ih2 (n2 - 1) (by omega) y_13 z_15 fz_16 _ _ ls (by omega) (by omega) hVz_15 hAz_15 hRz_15 hP hD hS (lv_sub hl [0, 2] rfl)
                  · have dc_18 := c_nle (a := x_17.toInt) (b := y_14.toInt) rfl rfl c_18
                    refine lv_iconst (v := 0) hx hb dX11_findGroups_41 (by decide +kernel) ?_
                    refine lv_istore_n (lv' := [(3, .int 0), (1, .int y_13), (2, .int y_14), (0, .ref g0)]) hx hb dX11_findGroups_42 rfl hl (by decide +kernel) rfl (fun ls hl => ?_)
                    have cut_19 : ∀ (n4 : Nat) (y_20 : Int32) (y_21 : Int32) (z_22 : Nat → Int32) (fz_23 : Nat → Nat → Int32) (H : Heap) (locs : List Loc) (ls : Array Slot), 40 - y_21.toInt ≤ (n4 : Int) → (0 ≤ y_20.toInt ∧ y_20.toInt ≤ 1) → (0 ≤ y_21.toInt ∧ y_21.toInt ≤ 40) → (gsum (fz_23 52) 40 : Int) + y_20.toInt ≤ (gsum (fz_10 52) 40 : Int) → mV z_22 → mA fz_23 → scr v fa z_22 fz_23 → va_P (dC, dI) vwCl (mW g0 pq cp z_22 fz_23) H → va_D A (mW g0 pq cp z_22 fz_23) → va_S A s.heap H locs → lv_has ls 4 [(1, .int y_20), (3, .int y_21), (2, .int y_14), (0, .ref g0)] → W p l e (headSpec wsX11_findGroups { frames := 1, cells := 0, slots := 0, locals := 26 }).room s m #[Value.ref g0] below meth c H locs 0 0 (MQ below (va_Qv (fun (u : (Nat → Int32) × (Nat → Nat → Int32)) => mV u.1 ∧ mA u.2 ∧ scr v fa u.1 u.2) (fun u t => va_P (dC, dI) vwCl (mW g0 pq cp u.1 u.2) t.heap ∧ va_K (dC, dI) vwCl (mT cp) t ∧ va_D A (mW g0 pq cp u.1 u.2)) A) #[Value.ref g0] s 0 0 A) (F0 m 43 ls []) := by
                      intro n4
                      induction n4 using Nat.strongRecOn with
                      | ind n4 ih4 =>
                        intro y_20 y_21 z_22 fz_23 H locs ls hm hy_20 hy_21 hq0_cut_19 hVz_22 hAz_22 hRz_22 hP hD hS hl
                        refine lv_iload_n hx hb dX11_findGroups_43 rfl (lv_at hl 1 rfl) ?_
                        refine lv_aload_n hx hb dX11_findGroups_44 rfl (lv_at hl 3 rfl) ?_
                        refine va_get (D := (dC, dI)) (ci := 11) (v := .int (z_22 39)) (C := RX11) (T := TX11) (N := 63) hx hb hts in_wsX11_findGroups_X11 hown hK hP 0 rfl rfl 39 (by decide +kernel) (hts (.fieldLink RX11 157 "ShipOfficeModel" "men" "I") iw_X11_findGroups_1) (fun _ h9 => h9) rfl dX11_findGroups_45 ?_
                        refine lv_topi (fun x_24 ex_24 => ?_)
                        have hx_24 : 0 ≤ x_24.toInt ∧ x_24.toInt ≤ 40 := iv_of ex_24 (hVz_22 39)
                        clear ex_24
                        refine lv_icmp_ge (tgt := 98) hx hb dX11_findGroups_48 (by decide +kernel) (fun c_25 => ?_) (fun c_25 => ?_)
                        · have dc_25 := c_le (a := x_24.toInt) (b := y_21.toInt) rfl rfl c_25
                          obtain ⟨x_26, ex_26⟩ : ∃ zq : Int32, y_14 + 1 = zq := ⟨_, rfl⟩
                          have hx_26 : x_26.toInt = y_14.toInt + 1 := (iv_to ex_26).symm.trans (ad_i rfl (by decide +kernel) (by omega) (by omega))
                          refine lv_iinc (v := x_26) (lv' := [(2, .int x_26), (1, .int y_20), (3, .int y_21), (0, .ref g0)]) hx hb dX11_findGroups_98 hl (k := 2) rfl ex_26 (by decide +kernel) rfl (fun ls hl => ?_)
                          clear ex_26
                          refine lv_goto (tgt := 33) hx hb dX11_findGroups_101 (by decide +kernel) ?_
                          exact ih3 (n3 - 1) (by omega) y_20 x_26 z_22 fz_23 _ _ ls (by omega) (by omega) (by omega) (by omega) hVz_22 hAz_22 hRz_22 hP hD hS (lv_sub hl [1, 0, 3] rfl)
                        · have dc_25 := c_nle (a := x_24.toInt) (b := y_21.toInt) rfl rfl c_25
                          have cut_27 : ∀ (y_28 : Int32) (z_29 : Nat → Int32) (fz_30 : Nat → Nat → Int32) (H : Heap) (locs : List Loc) (ls : Array Slot), (0 ≤ y_28.toInt ∧ y_28.toInt ≤ 1) → (gsum (fz_30 52) 40 : Int) + y_28.toInt ≤ (gsum (fz_10 52) 40 : Int) → mV z_29 → mA fz_30 → scr v fa z_29 fz_30 → va_P (dC, dI) vwCl (mW g0 pq cp z_29 fz_30) H → va_D A (mW g0 pq cp z_29 fz_30) → va_S A s.heap H locs → lv_has ls 4 [(1, .int y_28), (3, .int y_21), (2, .int y_14), (0, .ref g0)] → W p l e (headSpec wsX11_findGroups { frames := 1, cells := 0, slots := 0, locals := 26 }).room s m #[Value.ref g0] below meth c H locs 0 0 (MQ below (va_Qv (fun (u : (Nat → Int32) × (Nat → Nat → Int32)) => mV u.1 ∧ mA u.2 ∧ scr v fa u.1 u.2) (fun u t => va_P (dC, dI) vwCl (mW g0 pq cp u.1 u.2) t.heap ∧ va_K (dC, dI) vwCl (mT cp) t ∧ va_D A (mW g0 pq cp u.1 u.2)) A) #[Value.ref g0] s 0 0 A) (F0 m 92 ls []) := by
                            intro y_28 z_29 fz_30 H locs ls hy_28 hq0_cut_27 hVz_29 hAz_29 hRz_29 hP hD hS hl
                            obtain ⟨x_31, ex_31⟩ : ∃ zq : Int32, y_21 + 1 = zq := ⟨_, rfl⟩
                            have hx_31 : x_31.toInt = y_21.toInt + 1 := (iv_to ex_31).symm.trans (ad_i rfl (by decide +kernel) (by omega) (by omega))
                            refine lv_iinc (v := x_31) (lv' := [(3, .int x_31), (1, .int y_28), (2, .int y_14), (0, .ref g0)]) hx hb dX11_findGroups_92 hl (k := 1) rfl ex_31 (by decide +kernel) rfl (fun ls hl => ?_)
                            clear ex_31
                            refine lv_goto (tgt := 43) hx hb dX11_findGroups_95 (by decide +kernel) ?_
                            exact ih4 (n4 - 1) (by omega) y_28 x_31 z_29 fz_30 _ _ ls (by omega) (by omega) (by omega) (by omega) hVz_29 hAz_29 hRz_29 hP hD hS (lv_sub hl [1, 0, 2, 3] rfl)
                          refine lv_aload_n hx hb dX11_findGroups_51 rfl (lv_at hl 3 rfl) ?_
                          refine va_get (D := (dC, dI)) (ci := 11) (v := .ref (pq 52)) (C := RX11) (T := TX11) (N := 63) hx hb hts in_wsX11_findGroups_X11 hown hK hP 0 rfl rfl 52 (by decide +kernel) (hts (.fieldLink RX11 131 "ShipOfficeModel" "groups" "[I") iw_X11_findGroups_2) (fun _ h9 => h9) rfl dX11_findGroups_52 ?_
                          refine lv_iload_n hx hb dX11_findGroups_55 rfl (lv_at hl 1 rfl) ?_
                          refine va_iald hx hb hK hP 41 40 rfl rfl (vp_in_iff.mpr (by omega)) dX11_findGroups_56 ?_
                          refine lv_topi (fun x_32 ex_32 => ?_)
                          have hx_32 : 0 ≤ x_32.toInt ∧ x_32.toInt ≤ 39 := iv_of ex_32 (hAz_22 52 _)
                          have gx_32 : x_32.toInt = (fz_23 52 (y_21 : Int32).toNatClampNeg).toInt := iv_to ex_32
                          clear ex_32
                          refine lv_aload_n hx hb dX11_findGroups_57 rfl (lv_at hl 3 rfl) ?_
                          refine va_get (D := (dC, dI)) (ci := 11) (v := .ref (pq 52)) (C := RX11) (T := TX11) (N := 63) hx hb hts in_wsX11_findGroups_X11 hown hK hP 0 rfl rfl 52 (by decide +kernel) (hts (.fieldLink RX11 131 "ShipOfficeModel" "groups" "[I") iw_X11_findGroups_2) (fun _ h9 => h9) rfl dX11_findGroups_58 ?_
                          refine lv_iload_n hx hb dX11_findGroups_61 rfl (lv_at hl 2 rfl) ?_
                          refine va_iald hx hb hK hP 41 40 rfl rfl (vp_in_iff.mpr (by omega)) dX11_findGroups_62 ?_
                          refine lv_topi (fun x_33 ex_33 => ?_)
                          have hx_33 : 0 ≤ x_33.toInt ∧ x_33.toInt ≤ 39 := iv_of ex_33 (hAz_22 52 _)
                          have gx_33 : x_33.toInt = (fz_23 52 (y_14 : Int32).toNatClampNeg).toInt := iv_to ex_33
                          clear ex_33
                          refine lv_icmp_ge (tgt := 92) hx hb dX11_findGroups_63 (by decide +kernel) (fun c_34 => ?_) (fun c_34 => ?_)
                          · have dc_34 := c_le (a := x_33.toInt) (b := x_32.toInt) rfl rfl c_34
                            exact cut_27 y_20 z_22 fz_23 _ _ ls (by omega) (by omega) hVz_22 hAz_22 hRz_22 hP hD hS (lv_sub hl [0, 1, 2, 3] rfl)
                          · have dc_34 := c_nle (a := x_33.toInt) (b := x_32.toInt) rfl rfl c_34
                            refine lv_aload_n hx hb dX11_findGroups_66 rfl (lv_at hl 3 rfl) ?_
                            refine lv_iload_n hx hb dX11_findGroups_67 rfl (lv_at hl 2 rfl) ?_
                            refine lv_iload_n hx hb dX11_findGroups_68 rfl (lv_at hl 1 rfl) ?_
                            have hFc : ∀ q, va_A [] H.size q → A q := pu_free hS hA
                            refine va_calli (va_runV (As := [.int y_14, .int y_21]) (rest := []) ⟨hx, hb, hml, hown, hts⟩ (c_X11_isAlike l dC dI H.size g0 pq cp z_22 fz_23 hVz_22 hAz_22 y_14 (by omega) y_21 (by omega)) (cwV 2 hts gX11_findGroups_X11_isAlike rfl rfl rfl (by decide +kernel) ⟨(Nat.le_of_ble_eq_true rfl), (Nat.le_of_ble_eq_true rfl)⟩) (pr_V (r := (RX11, TX11, 63)) hP hK hD 0 11 rfl rfl) rfl rfl hl.1 rfl (lv_room (Nat.le_of_ble_eq_true rfl)) dX11_findGroups_69 ⟨(Nat.le_of_ble_eq_true rfl), (Nat.le_of_ble_eq_true rfl)⟩) hS (fun q _ h => hFc q h) hFc (fun r_36 u t H locs ht hvm w_35 hB hz1 hk1 hS => ?_)
                            have hP := pu_keep hP hk1
                            clear hk1 hz1 hvm hB ht hFc
                            refine lv_if_ne (tgt := 78) hx hb dX11_findGroups_72 (by decide +kernel) (fun c_38 => ?_) (fun c_38 => ?_)
                            · have dc_38 := c_ne (a := r_36.toInt) (b := 0) rfl (by decide +kernel) c_38
                              refine lv_aload_n hx hb dX11_findGroups_78 rfl (lv_at hl 3 rfl) ?_
                              refine va_get (D := (dC, dI)) (ci := 11) (v := .ref (pq 52)) (C := RX11) (T := TX11) (N := 63) hx hb hts in_wsX11_findGroups_X11 hown hK hP 0 rfl rfl 52 (by decide +kernel) (hts (.fieldLink RX11 131 "ShipOfficeModel" "groups" "[I") iw_X11_findGroups_2) (fun _ h9 => h9) rfl dX11_findGroups_79 ?_
                              refine lv_iload_n hx hb dX11_findGroups_82 rfl (lv_at hl 2 rfl) ?_
                              refine lv_aload_n hx hb dX11_findGroups_83 rfl (lv_at hl 3 rfl) ?_
                              refine va_get (D := (dC, dI)) (ci := 11) (v := .ref (pq 52)) (C := RX11) (T := TX11) (N := 63) hx hb hts in_wsX11_findGroups_X11 hown hK hP 0 rfl rfl 52 (by decide +kernel) (hts (.fieldLink RX11 131 "ShipOfficeModel" "groups" "[I") iw_X11_findGroups_2) (fun _ h9 => h9) rfl dX11_findGroups_84 ?_
                              refine lv_iload_n hx hb dX11_findGroups_87 rfl (lv_at hl 1 rfl) ?_
                              refine va_iald hx hb hK hP 41 40 rfl rfl (vp_in_iff.mpr (by omega)) dX11_findGroups_88 ?_
                              refine lv_topi (fun x_39 ex_39 => ?_)
                              have hx_39 : 0 ≤ x_39.toInt ∧ x_39.toInt ≤ 39 := iv_of ex_39 (hAz_22 52 _)
                              have gx_39 : x_39.toInt = (fz_23 52 (y_21 : Int32).toNatClampNeg).toInt := iv_to ex_39
                              clear ex_39
                              refine va_iast hx hb hK hP hD hS 41 40 rfl rfl (vp_in_iff.mpr (by omega)) dX11_findGroups_89 (fun H locs hP hD hS => ?_)
                              have hP : va_P (dC, dI) vwCl (mW g0 pq cp z_22 (upF fz_23 52 (y_14 : Int32).toNatClampNeg x_39)) H := hP
                              have hD : va_D A (mW g0 pq cp z_22 (upF fz_23 52 (y_14 : Int32).toNatClampNeg x_39)) := hD
                              obtain ⟨fz_40, efz_40⟩ : ∃ zq, zq = (upF fz_23 52 (y_14 : Int32).toNatClampNeg x_39) := ⟨_, rfl⟩
                              rw [← efz_40] at hP hD
                              have hAfz_40 : mA fz_40 := by rw [efz_40]; exact mA_upF (lo := 0) (hi := 39) hAz_22 rfl rfl (by omega)
                              have hRfz_40 : scr v fa z_22 fz_40 := by rw [efz_40]; exact scr.uF hRz_22 rfl
                              have hgsfz_40 := gsum_F (o := 0) efz_40 (by omega) (by omega) (by omega)
                              refine lv_iconst (v := 1) hx hb dX11_findGroups_90 (by decide +kernel) ?_
                              refine lv_istore_n (lv' := [(1, .int 1), (3, .int y_21), (2, .int y_14), (0, .ref g0)]) hx hb dX11_findGroups_91 rfl hl (by decide +kernel) rfl (fun ls hl => ?_)
                              have kc_41 : (1 : Int32).toInt = 1 := by decide
                              exact cut_27 1 z_22 fz_40 _ _ ls (by decide +kernel) (by omega) hVz_22 hAfz_40 hRfz_40 hP hD hS (lv_sub hl [0, 1, 2, 3] rfl)
                            · have dc_38 := c_eq (a := r_36.toInt) (b := 0) rfl (by decide +kernel) c_38
                              refine lv_goto (tgt := 92) hx hb dX11_findGroups_75 (by decide +kernel) ?_
                              exact cut_27 y_20 z_22 fz_23 _ _ ls (by omega) (by omega) hVz_22 hAz_22 hRz_22 hP hD hS (lv_sub hl [0, 1, 2, 3] rfl)
                    have kc_42 : (0 : Int32).toInt = 0 := by decide
                    exact cut_19 41 y_13 0 z_15 fz_16 _ _ ls (by omega) (by omega) (by decide +kernel) (by omega) hVz_15 hAz_15 hRz_15 hP hD hS (lv_sub hl [1, 0, 2, 3] rfl)
              have kc_43 : (0 : Int32).toInt = 0 := by decide
              exact cut_12 41 0 0 z_9 fz_10 _ _ ls (by omega) (by decide +kernel) (by decide +kernel) (by omega) hVz_9 hAz_9 hRz_9 hP hD hS (lv_sub hl [1, 0, 2] rfl)
        have kc_44 : (1 : Int32).toInt = 1 := by decide
        exact cut_7 (gsum (fz_4 52) 40 + 1) 1 z_3 fz_4 _ _ ls (by omega) (by decide +kernel) hVz_3 hAz_3 hRz_3 hP hD hS (lv_sub hl [0, 1] rfl)
      · have dc_6 := c_nle (a := x_5.toInt) (b := y_2.toInt) rfl rfl c_6
        refine lv_aload_n hx hb dX11_findGroups_10 rfl (lv_at hl 1 rfl) ?_
        refine va_get (D := (dC, dI)) (ci := 11) (v := .ref (pq 52)) (C := RX11) (T := TX11) (N := 63) hx hb hts in_wsX11_findGroups_X11 hown hK hP 0 rfl rfl 52 (by decide +kernel) (hts (.fieldLink RX11 131 "ShipOfficeModel" "groups" "[I") iw_X11_findGroups_2) (fun _ h9 => h9) rfl dX11_findGroups_11 ?_
        refine lv_iload_n hx hb dX11_findGroups_14 rfl (lv_at hl 0 rfl) ?_
        refine lv_iload_n hx hb dX11_findGroups_15 rfl (lv_at hl 0 rfl) ?_
        refine va_iast hx hb hK hP hD hS 41 40 rfl rfl (vp_in_iff.mpr (by omega)) dX11_findGroups_16 (fun H locs hP hD hS => ?_)
        have hP : va_P (dC, dI) vwCl (mW g0 pq cp z_3 (upF fz_4 52 (y_2 : Int32).toNatClampNeg y_2)) H := hP
        have hD : va_D A (mW g0 pq cp z_3 (upF fz_4 52 (y_2 : Int32).toNatClampNeg y_2)) := hD
        obtain ⟨fz_45, efz_45⟩ : ∃ zq, zq = (upF fz_4 52 (y_2 : Int32).toNatClampNeg y_2) := ⟨_, rfl⟩
        rw [← efz_45] at hP hD
        have hAfz_45 : mA fz_45 := by rw [efz_45]; exact mA_upF (lo := 0) (hi := 39) hAz_3 rfl rfl (by omega)
        have hRfz_45 : scr v fa z_3 fz_45 := by rw [efz_45]; exact scr.uF hRz_3 rfl
        obtain ⟨x_46, ex_46⟩ : ∃ zq : Int32, y_2 + 1 = zq := ⟨_, rfl⟩
        have hx_46 : x_46.toInt = y_2.toInt + 1 := (iv_to ex_46).symm.trans (ad_i rfl (by decide +kernel) (by omega) (by omega))
        refine lv_iinc (v := x_46) (lv' := [(1, .int x_46), (0, .ref g0)]) hx hb dX11_findGroups_17 hl (k := 0) rfl ex_46 (by decide +kernel) rfl (fun ls hl => ?_)
        clear ex_46
        refine lv_goto (tgt := 2) hx hb dX11_findGroups_20 (by decide +kernel) ?_
        exact ih (n - 1) (by omega) x_46 z_3 fz_45 _ _ ls (by omega) (by omega) hVz_3 hAfz_45 hRfz_45 hP hD hS (lv_sub hl [0, 1] rfl)
  have kc_47 : (0 : Int32).toInt = 0 := by decide
  exact cut_1 41 0 v fa _ _ ls (by omega) (by decide +kernel) gV gA scr.rf hP hD hS (lv_sub hl [0, 1] rfl)
set_option maxHeartbeats 4000000 in
set_option maxRecDepth 100000 in
theorem c_X11_group (l : Launch) (dC : Nat → ClassId) (dI : Nat → Nat → Nat) (sz : Nat) (g0 : Nat) (pq : Nat → Nat) (cp : Nat → ClassId) (v : Nat → Int32) (fa : Nat → Nat → Int32) (gV : mV v) (gA : mA fa) (x1 : Int32) : Met l yX11_group wsX11_group ({ frames := 2, cells := 0, slots := 0, locals := 49 }) (va_Pc [.ref g0, .int x1] (pcW (dC, dI) (mT cp) (mW g0 pq cp v fa) sz)) (va_Qi (fun (r : Int32) (u : (Nat → Int32) × (Nat → Nat → Int32)) => mV u.1 ∧ mA u.2 ∧ mX [0, 45, 47, 48, 49, 50, 51, 52, 53, 54, 55, 56, 57, 58, 59, 60] v fa u.1 u.2) (fun u t => va_P (dC, dI) vwCl (mW g0 pq cp u.1 u.2) t.heap ∧ va_K (dC, dI) vwCl (mT cp) t ∧ va_D (va_A (mW g0 pq cp v fa) sz) (mW g0 pq cp u.1 u.2)) (va_A (mW g0 pq cp v fa) sz)) 0 0 (va_A (mW g0 pq cp v fa) sz) := by
  refine Met.ofW (cc := cX11_group) (maxL := 2) (ret := (some .int)) (by decide +kernel) rfl ?_
  intro p e s m args below meth c s₁ B hml hv
  obtain ⟨rfl, hsz, hP, hK, hD0⟩ := hv
  have hx := B.exec
  have hb := B.bytes
  have hr := B.returns
  have hts := atoms_spec (ws := wsX11_group) B.pre
  have hown : s.vm.findClass RX11 = some m.cls := findClass_of_methodNamed B.named
  have hlocks := B.notSynchronized
  subst hsz
  have hD := hD0.self (sz := s.heap.size)
  generalize hAe : va_A (mW g0 pq cp v fa) s.heap.size = A at hD ⊢
  have hA : ∀ q : Nat, s.heap.size ≤ q → A q := fun q h => by rw [← hAe]; exact Or.inr h
  have hS : va_S A s.heap s.heap [] := va_S.rf
  have hP : va_P (dC, dI) vwCl (mW g0 pq cp v fa) s.heap := hP
  have hl := lv_entry ([.ref g0, .int x1]) (n := 2) (Nat.le_of_ble_eq_true rfl)
  rw [lg_entry_eq]
  generalize (lg_sl ([.ref g0, .int x1]) ++ List.replicate (2 - (lg_sl ([.ref g0, .int x1])).length) Slot.unset).toArray = ls at hl ⊢
  have hl : lv_has ls 2 [(0, .ref g0), (1, .int x1)] := hl
  refine lv_aload_n hx hb dX11_group_0 rfl (lv_at hl 0 rfl) ?_
  refine lv_iload_n hx hb dX11_group_1 rfl (lv_at hl 1 rfl) ?_
  have hFc : ∀ q, va_A [] s.heap.size q → A q := pu_free hS hA
  refine va_calli (va_runV (As := [.int x1]) (rest := []) ⟨hx, hb, hml, hown, hts⟩ (c_X11_isMan l dC dI s.heap.size g0 pq cp v fa x1) (cwV 1 hts gX11_group_X11_isMan rfl rfl rfl (by decide +kernel) ⟨(Nat.le_of_ble_eq_true rfl), (Nat.le_of_ble_eq_true rfl)⟩) (pr_V (r := (RX11, TX11, 63)) hP hK hD 0 11 rfl rfl) rfl rfl hl.1 rfl (lv_room (Nat.le_of_ble_eq_true rfl)) dX11_group_2 ⟨(Nat.le_of_ble_eq_true rfl), (Nat.le_of_ble_eq_true rfl)⟩) hS (fun q _ h => hFc q h) hFc (fun r_2 u t H locs ht hvm w_1 hB hz1 hk1 hS => ?_)
  have hP := pu_keep hP hk1
  clear hk1 hz1 hvm hB ht hFc
  have hbr_2 : 0 ≤ r_2.toInt ∧ r_2.toInt ≤ 1 := iv_of w_1 (isI_i _ _)
  refine lv_if_ne (tgt := 14) hx hb dX11_group_5 (by decide +kernel) (fun c_3 => ?_) (fun c_3 => ?_)
  · have dc_3 := c_ne (a := r_2.toInt) (b := 0) rfl (by decide +kernel) c_3
    have hi_4 := isI_t w_1 (fun q => c_3 (Int32.toInt_inj.mp q))
    have khi_4 : (v 39).toInt ≤ 40 := (gV 39).2
    refine lv_aload_n hx hb dX11_group_14 rfl (lv_at hl 0 rfl) ?_
    have hFc := va_free (wc := (mW g0 pq cp v fa)) hD hS hA (List.range 48) rfl
    refine va_callv (va_runV (As := []) (rest := []) ⟨hx, hb, hml, hown, hts⟩ (c_X11_findGroups l dC dI H.size g0 pq cp v fa gV gA) (cwV 0 hts gX11_group_X11_findGroups rfl rfl rfl (by decide +kernel) ⟨(Nat.le_of_ble_eq_true rfl), (Nat.le_of_ble_eq_true rfl)⟩) (pr_V (r := (RX11, TX11, 63)) hP hK hD 0 11 rfl rfl) rfl rfl hl.1 rfl (lv_room (Nat.le_of_ble_eq_true rfl)) dX11_group_15 ⟨(Nat.le_of_ble_eq_true rfl), (Nat.le_of_ble_eq_true rfl)⟩) hS (fun q _ h => hFc q h) hFc (fun u t H locs ht hvm w_5 hB hz1 hk1 hS => ?_)
    obtain ⟨v_7, fa_8⟩ := u
    obtain ⟨hP1, hK1, hD1⟩ := hB
    rw [ht] at hP1
    have hP : va_P (dC, dI) vwCl (mW g0 pq cp v_7 fa_8) H := hP1
    have hD : va_D A (mW g0 pq cp v_7 fa_8) := hD1.weaken (fun _ _ _ h => hFc _ h)
    clear hP1 hK1 hD1 hk1 hz1 hvm ht hFc
    obtain ⟨hV_9, hA_10, hR_11⟩ := w_5
    dsimp only at hV_9 hA_10 hR_11 
    have R_12 : mX [0, 45, 47, 48, 49, 50, 51, 52, 53, 54, 55, 56, 57, 58, 59, 60] v fa v_7 fa_8 := mX.st mX.rf (mX.scr hR_11) (by decide +kernel)
    refine lv_aload_n hx hb dX11_group_18 rfl (lv_at hl 0 rfl) ?_
    refine va_get (D := (dC, dI)) (ci := 11) (v := .ref (pq 52)) (C := RX11) (T := TX11) (N := 63) hx hb hts in_wsX11_group_X11 hown hK hP 0 rfl rfl 52 (by decide +kernel) (hts (.fieldLink RX11 131 "ShipOfficeModel" "groups" "[I") iw_X11_group_1) (fun _ h9 => h9) rfl dX11_group_19 ?_
    refine lv_iload_n hx hb dX11_group_22 rfl (lv_at hl 1 rfl) ?_
    refine va_iald hx hb hK hP 41 40 rfl rfl (vp_in_iff.mpr (by omega)) dX11_group_23 ?_
    refine lv_topi (fun x_13 ex_13 => ?_)
    have hx_13 : 0 ≤ x_13.toInt ∧ x_13.toInt ≤ 39 := iv_of ex_13 (hA_10 52 _)
    clear ex_13
    exact W.iret (v := x_13) hx hb hr (fun t ht hW => ⟨⟨x_13, (v_7, fa_8), rfl, ⟨hV_9, hA_10, R_12⟩, ⟨by rw [ht]; exact hP, va_K.moved hW.alike hK, hD⟩⟩, hS.F ht⟩) hS.2.2 dX11_group_24
  · have dc_3 := c_eq (a := r_2.toInt) (b := 0) rfl (by decide +kernel) c_3
    refine lv_aload_n hx hb dX11_group_8 rfl (lv_at hl 0 rfl) ?_
    refine lv_iconst (v := (-1)) hx hb dX11_group_9 (by decide +kernel) ?_
    have hFc := va_free (wc := (mW g0 pq cp v fa)) hD hS hA (List.range 48) rfl
    refine va_calli (va_runV (As := [.int (-1)]) (rest := []) ⟨hx, hb, hml, hown, hts⟩ (c_X11_refuse l dC dI H.size g0 pq cp v fa (-1) (by unfold vp_in; decide)) (cwV 1 hts gX11_group_X11_refuse rfl rfl rfl (by decide +kernel) ⟨(Nat.le_of_ble_eq_true rfl), (Nat.le_of_ble_eq_true rfl)⟩) (pr_V (r := (RX11, TX11, 63)) hP hK hD 0 11 rfl rfl) rfl rfl hl.1 rfl (lv_room (Nat.le_of_ble_eq_true rfl)) dX11_group_10 ⟨(Nat.le_of_ble_eq_true rfl), (Nat.le_of_ble_eq_true rfl)⟩) hS (fun q _ h => hFc q h) hFc (fun r_15 u t H locs ht hvm w_14 hB hz1 hk1 hS => ?_)
    obtain ⟨v_16, fa_17⟩ := u
    obtain ⟨hP1, hK1, hD1⟩ := hB
    rw [ht] at hP1
    have hP : va_P (dC, dI) vwCl (mW g0 pq cp v_16 fa_17) H := hP1
    have hD : va_D A (mW g0 pq cp v_16 fa_17) := hD1.weaken (fun _ _ _ h => hFc _ h)
    clear hP1 hK1 hD1 hk1 hz1 hvm ht hFc
    obtain ⟨rfl, w_14⟩ := w_14
    have hVv_16 : mV v_16 := sm0_V w_14 gV
    have hAv_16 : mA fa_17 := sm0_A w_14 gA
    have hRv_16 : mX [0, 45, 47, 48, 49, 50, 51, 52, 53, 54, 55, 56, 57, 58, 59, 60] v fa v_16 fa_17 := mX.st mX.rf (mX.s0 w_14) (by decide +kernel)
    exact W.iret (v := (-1)) hx hb hr (fun t ht hW => ⟨⟨(-1), (v_16, fa_17), rfl, ⟨hVv_16, hAv_16, hRv_16⟩, ⟨by rw [ht]; exact hP, va_K.moved hW.alike hK, hD⟩⟩, hS.F ht⟩) hS.2.2 dX11_group_13
set_option maxHeartbeats 4000000 in
set_option maxRecDepth 100000 in
theorem c_X11_borrowed (l : Launch) (dC : Nat → ClassId) (dI : Nat → Nat → Nat) (sz : Nat) (g0 : Nat) (pq : Nat → Nat) (cp : Nat → ClassId) (v : Nat → Int32) (fa : Nat → Nat → Int32) (gV : mV v) (gA : mA fa) (x1 : Int32) : Met l yX11_borrowed wsX11_borrowed ({ frames := 2, cells := 0, slots := 0, locals := 49 }) (va_Pc [.ref g0, .int x1] (pcW (dC, dI) (mT cp) (mW g0 pq cp v fa) sz)) (va_Qi (fun (r : Int32) (u : (Nat → Int32) × (Nat → Nat → Int32)) => mV u.1 ∧ mA u.2 ∧ mX [0, 45, 47, 48, 49, 50, 51, 52, 53, 54, 55, 56, 57, 58, 59, 60] v fa u.1 u.2) (fun u t => va_P (dC, dI) vwCl (mW g0 pq cp u.1 u.2) t.heap ∧ va_K (dC, dI) vwCl (mT cp) t ∧ va_D (va_A (mW g0 pq cp v fa) sz) (mW g0 pq cp u.1 u.2)) (va_A (mW g0 pq cp v fa) sz)) 0 0 (va_A (mW g0 pq cp v fa) sz) := by
  refine Met.ofW (cc := cX11_borrowed) (maxL := 3) (ret := (some .int)) (by decide +kernel) rfl ?_
  intro p e s m args below meth c s₁ B hml hv
  obtain ⟨rfl, hsz, hP, hK, hD0⟩ := hv
  have hx := B.exec
  have hb := B.bytes
  have hr := B.returns
  have hts := atoms_spec (ws := wsX11_borrowed) B.pre
  have hown : s.vm.findClass RX11 = some m.cls := findClass_of_methodNamed B.named
  have hlocks := B.notSynchronized
  subst hsz
  have hD := hD0.self (sz := s.heap.size)
  generalize hAe : va_A (mW g0 pq cp v fa) s.heap.size = A at hD ⊢
  have hA : ∀ q : Nat, s.heap.size ≤ q → A q := fun q h => by rw [← hAe]; exact Or.inr h
  have hS : va_S A s.heap s.heap [] := va_S.rf
  have hP : va_P (dC, dI) vwCl (mW g0 pq cp v fa) s.heap := hP
  have hl := lv_entry ([.ref g0, .int x1]) (n := 3) (Nat.le_of_ble_eq_true rfl)
  rw [lg_entry_eq]
  generalize (lg_sl ([.ref g0, .int x1]) ++ List.replicate (3 - (lg_sl ([.ref g0, .int x1])).length) Slot.unset).toArray = ls at hl ⊢
  have hl : lv_has ls 3 [(0, .ref g0), (1, .int x1)] := hl
  refine lv_aload_n hx hb dX11_borrowed_0 rfl (lv_at hl 0 rfl) ?_
  refine lv_iload_n hx hb dX11_borrowed_1 rfl (lv_at hl 1 rfl) ?_
  have hFc : ∀ q, va_A [] s.heap.size q → A q := pu_free hS hA
  refine va_calli (va_runV (As := [.int x1]) (rest := []) ⟨hx, hb, hml, hown, hts⟩ (c_X11_isAgreement l dC dI s.heap.size g0 pq cp v fa x1) (cwV 1 hts gX11_borrowed_X11_isAgreement rfl rfl rfl (by decide +kernel) ⟨(Nat.le_of_ble_eq_true rfl), (Nat.le_of_ble_eq_true rfl)⟩) (pr_V (r := (RX11, TX11, 63)) hP hK hD 0 11 rfl rfl) rfl rfl hl.1 rfl (lv_room (Nat.le_of_ble_eq_true rfl)) dX11_borrowed_2 ⟨(Nat.le_of_ble_eq_true rfl), (Nat.le_of_ble_eq_true rfl)⟩) hS (fun q _ h => hFc q h) hFc (fun r_2 u t H locs ht hvm w_1 hB hz1 hk1 hS => ?_)
  have hP := pu_keep hP hk1
  clear hk1 hz1 hvm hB ht hFc
  have hbr_2 : 0 ≤ r_2.toInt ∧ r_2.toInt ≤ 1 := iv_of w_1 (isI_i _ _)
  refine lv_if_ne (tgt := 14) hx hb dX11_borrowed_5 (by decide +kernel) (fun c_3 => ?_) (fun c_3 => ?_)
  · have dc_3 := c_ne (a := r_2.toInt) (b := 0) rfl (by decide +kernel) c_3
    have hi_4 := isI_t w_1 (fun q => c_3 (Int32.toInt_inj.mp q))
    have khi_4 : (v 43).toInt ≤ 60 := (gV 43).2
    refine lv_aload_n hx hb dX11_borrowed_14 rfl (lv_at hl 0 rfl) ?_
    refine va_get (D := (dC, dI)) (ci := 11) (v := .ref (pq 24)) (C := RX11) (T := TX11) (N := 63) hx hb hts in_wsX11_borrowed_X11 hown hK hP 0 rfl rfl 24 (by decide +kernel) (hts (.fieldLink RX11 82 "ShipOfficeModel" "paper" "[I") iw_X11_borrowed_1) (fun _ h9 => h9) rfl dX11_borrowed_15 ?_
    refine lv_iload_n hx hb dX11_borrowed_18 rfl (lv_at hl 1 rfl) ?_
    refine va_iald hx hb hK hP 25 24 rfl rfl (vp_in_iff.mpr (by omega)) dX11_borrowed_19 ?_
    refine lv_topi (fun x_5 ex_5 => ?_)
    have hx_5 : -1 ≤ x_5.toInt ∧ x_5.toInt ≤ 59 := iv_of ex_5 (gA 24 _)
    have gx_5 : x_5.toInt = (fa 24 (x1 : Int32).toNatClampNeg).toInt := iv_to ex_5
    clear ex_5
    refine lv_if_ge (tgt := 25) hx hb dX11_borrowed_20 (by decide +kernel) (fun c_6 => ?_) (fun c_6 => ?_)
    · have dc_6 := c_le (a := 0) (b := x_5.toInt) (by decide +kernel) rfl c_6
      refine lv_aload_n hx hb dX11_borrowed_25 rfl (lv_at hl 0 rfl) ?_
      have hFc := va_free (wc := (mW g0 pq cp v fa)) hD hS hA (List.range 48) rfl
      refine va_callv (va_runV (As := []) (rest := []) ⟨hx, hb, hml, hown, hts⟩ (c_X11_findGroups l dC dI H.size g0 pq cp v fa gV gA) (cwV 0 hts gX11_borrowed_X11_findGroups rfl rfl rfl (by decide +kernel) ⟨(Nat.le_of_ble_eq_true rfl), (Nat.le_of_ble_eq_true rfl)⟩) (pr_V (r := (RX11, TX11, 63)) hP hK hD 0 11 rfl rfl) rfl rfl hl.1 rfl (lv_room (Nat.le_of_ble_eq_true rfl)) dX11_borrowed_26 ⟨(Nat.le_of_ble_eq_true rfl), (Nat.le_of_ble_eq_true rfl)⟩) hS (fun q _ h => hFc q h) hFc (fun u t H locs ht hvm w_7 hB hz1 hk1 hS => ?_)
      obtain ⟨v_9, fa_10⟩ := u
      obtain ⟨hP1, hK1, hD1⟩ := hB
      rw [ht] at hP1
      have hP : va_P (dC, dI) vwCl (mW g0 pq cp v_9 fa_10) H := hP1
      have hD : va_D A (mW g0 pq cp v_9 fa_10) := hD1.weaken (fun _ _ _ h => hFc _ h)
      clear hP1 hK1 hD1 hk1 hz1 hvm ht hFc
      obtain ⟨hV_11, hA_12, hR_13⟩ := w_7
      dsimp only at hV_11 hA_12 hR_13 
      have g_14 : (fa_10 24 (x1 : Int32).toNatClampNeg).toInt = (fa 24 (x1 : Int32).toNatClampNeg).toInt := congrArg (fun h : Nat → Int32 => Int32.toInt (h (x1 : Int32).toNatClampNeg)) (hR_13.2 24 rfl)
      have R_15 : mX [0, 45, 47, 48, 49, 50, 51, 52, 53, 54, 55, 56, 57, 58, 59, 60] v fa v_9 fa_10 := mX.st mX.rf (mX.scr hR_13) (by decide +kernel)
      refine lv_aload_n hx hb dX11_borrowed_29 rfl (lv_at hl 0 rfl) ?_
      refine va_get (D := (dC, dI)) (ci := 11) (v := .ref (pq 52)) (C := RX11) (T := TX11) (N := 63) hx hb hts in_wsX11_borrowed_X11 hown hK hP 0 rfl rfl 52 (by decide +kernel) (hts (.fieldLink RX11 131 "ShipOfficeModel" "groups" "[I") iw_X11_borrowed_2) (fun _ h9 => h9) rfl dX11_borrowed_30 ?_
      refine lv_aload_n hx hb dX11_borrowed_33 rfl (lv_at hl 0 rfl) ?_
      refine va_get (D := (dC, dI)) (ci := 11) (v := .ref (pq 20)) (C := RX11) (T := TX11) (N := 63) hx hb hts in_wsX11_borrowed_X11 hown hK hP 0 rfl rfl 20 (by decide +kernel) (hts (.fieldLink RX11 70 "ShipOfficeModel" "man" "[I") iw_X11_borrowed_3) (fun _ h9 => h9) rfl dX11_borrowed_34 ?_
      refine lv_aload_n hx hb dX11_borrowed_37 rfl (lv_at hl 0 rfl) ?_
      refine va_get (D := (dC, dI)) (ci := 11) (v := .ref (pq 24)) (C := RX11) (T := TX11) (N := 63) hx hb hts in_wsX11_borrowed_X11 hown hK hP 0 rfl rfl 24 (by decide +kernel) (hts (.fieldLink RX11 82 "ShipOfficeModel" "paper" "[I") iw_X11_borrowed_1) (fun _ h9 => h9) rfl dX11_borrowed_38 ?_
      refine lv_iload_n hx hb dX11_borrowed_41 rfl (lv_at hl 1 rfl) ?_
      refine va_iald hx hb hK hP 25 24 rfl rfl (vp_in_iff.mpr (by omega)) dX11_borrowed_42 ?_
      refine lv_topi (fun x_16 ex_16 => ?_)
      have hx_16 : -1 ≤ x_16.toInt ∧ x_16.toInt ≤ 59 := iv_of ex_16 (hA_12 24 _)
      have gx_16 : x_16.toInt = (fa_10 24 (x1 : Int32).toNatClampNeg).toInt := iv_to ex_16
      clear ex_16
      refine va_iald hx hb hK hP 21 20 rfl rfl (vp_in_iff.mpr (by omega)) dX11_borrowed_43 ?_
      refine lv_topi (fun x_17 ex_17 => ?_)
      have hx_17 : 0 ≤ x_17.toInt ∧ x_17.toInt ≤ 39 := iv_of ex_17 (hA_12 20 _)
      clear ex_17
      refine va_iald hx hb hK hP 41 40 rfl rfl (vp_in_iff.mpr (by omega)) dX11_borrowed_44 ?_
      refine lv_topi (fun x_18 ex_18 => ?_)
      have hx_18 : 0 ≤ x_18.toInt ∧ x_18.toInt ≤ 39 := iv_of ex_18 (hA_12 52 _)
      clear ex_18
      refine lv_aload_n hx hb dX11_borrowed_45 rfl (lv_at hl 0 rfl) ?_
      refine va_get (D := (dC, dI)) (ci := 11) (v := .ref (pq 52)) (C := RX11) (T := TX11) (N := 63) hx hb hts in_wsX11_borrowed_X11 hown hK hP 0 rfl rfl 52 (by decide +kernel) (hts (.fieldLink RX11 131 "ShipOfficeModel" "groups" "[I") iw_X11_borrowed_2) (fun _ h9 => h9) rfl dX11_borrowed_46 ?_
      refine lv_aload_n hx hb dX11_borrowed_49 rfl (lv_at hl 0 rfl) ?_
      refine va_get (D := (dC, dI)) (ci := 11) (v := .ref (pq 20)) (C := RX11) (T := TX11) (N := 63) hx hb hts in_wsX11_borrowed_X11 hown hK hP 0 rfl rfl 20 (by decide +kernel) (hts (.fieldLink RX11 70 "ShipOfficeModel" "man" "[I") iw_X11_borrowed_3) (fun _ h9 => h9) rfl dX11_borrowed_50 ?_
      refine lv_iload_n hx hb dX11_borrowed_53 rfl (lv_at hl 1 rfl) ?_
      refine va_iald hx hb hK hP 21 20 rfl rfl (vp_in_iff.mpr (by omega)) dX11_borrowed_54 ?_
      refine lv_topi (fun x_19 ex_19 => ?_)
      have hx_19 : 0 ≤ x_19.toInt ∧ x_19.toInt ≤ 39 := iv_of ex_19 (hA_12 20 _)
      clear ex_19
      refine va_iald hx hb hK hP 41 40 rfl rfl (vp_in_iff.mpr (by omega)) dX11_borrowed_55 ?_
      refine lv_topi (fun x_20 ex_20 => ?_)
      have hx_20 : 0 ≤ x_20.toInt ∧ x_20.toInt ≤ 39 := iv_of ex_20 (hA_12 52 _)
      clear ex_20
      refine lv_icmp_eq (tgt := 61) hx hb dX11_borrowed_56 (by decide +kernel) (fun c_21 => ?_) (fun c_21 => ?_)
      · have dc_21 := c_eq (a := x_18.toInt) (b := x_20.toInt) rfl rfl c_21
        refine lv_iconst (v := 0) hx hb dX11_borrowed_61 (by decide +kernel) ?_
        refine lv_istore_n (lv' := [(2, .int 0), (0, .ref g0), (1, .int x1)]) hx hb dX11_borrowed_62 rfl hl (by decide +kernel) rfl (fun ls hl => ?_)
        have cut_22 : ∀ (n : Nat) (y_23 : Int32) (z_24 : Nat → Int32) (fz_25 : Nat → Nat → Int32) (H : Heap) (locs : List Loc) (ls : Array Slot), 60 - y_23.toInt ≤ (n : Int) → (0 ≤ y_23.toInt ∧ y_23.toInt ≤ 60) → mV z_24 → mA fz_25 → mX [0, 45, 47, 48, 49, 50, 51, 52, 53, 54, 55, 56, 57, 58, 59, 60] v fa z_24 fz_25 → va_P (dC, dI) vwCl (mW g0 pq cp z_24 fz_25) H → va_D A (mW g0 pq cp z_24 fz_25) → va_S A s.heap H locs → lv_has ls 3 [(2, .int y_23), (0, .ref g0), (1, .int x1)] → W p l e (headSpec wsX11_borrowed { frames := 2, cells := 0, slots := 0, locals := 49 }).room s m #[Value.ref g0, Value.int x1] below meth c H locs 0 0 (MQ below (va_Qi (fun (r : Int32) (u : (Nat → Int32) × (Nat → Nat → Int32)) => mV u.1 ∧ mA u.2 ∧ mX [0, 45, 47, 48, 49, 50, 51, 52, 53, 54, 55, 56, 57, 58, 59, 60] v fa u.1 u.2) (fun u t => va_P (dC, dI) vwCl (mW g0 pq cp u.1 u.2) t.heap ∧ va_K (dC, dI) vwCl (mT cp) t ∧ va_D A (mW g0 pq cp u.1 u.2)) A) #[Value.ref g0, Value.int x1] s 0 0 A) (F0 m 63 ls []) := by
          intro n
          induction n using Nat.strongRecOn with
          | ind n ih =>
            intro y_23 z_24 fz_25 H locs ls hm hy_23 hVz_24 hAz_24 hRz_24 hP hD hS hl
            refine lv_iload_n hx hb dX11_borrowed_63 rfl (lv_at hl 0 rfl) ?_
            refine lv_aload_n hx hb dX11_borrowed_64 rfl (lv_at hl 1 rfl) ?_
            refine va_get (D := (dC, dI)) (ci := 11) (v := .int (z_24 43)) (C := RX11) (T := TX11) (N := 63) hx hb hts in_wsX11_borrowed_X11 hown hK hP 0 rfl rfl 43 (by decide +kernel) (hts (.fieldLink RX11 168 "ShipOfficeModel" "agreements" "I") iw_X11_borrowed_4) (fun _ h9 => h9) rfl dX11_borrowed_65 ?_
            refine lv_topi (fun x_26 ex_26 => ?_)
            have hx_26 : 0 ≤ x_26.toInt ∧ x_26.toInt ≤ 60 := iv_of ex_26 (hVz_24 43)
            clear ex_26
            refine lv_icmp_ge (tgt := 127) hx hb dX11_borrowed_68 (by decide +kernel) (fun c_27 => ?_) (fun c_27 => ?_)
            · have dc_27 := c_le (a := x_26.toInt) (b := y_23.toInt) rfl rfl c_27
              refine lv_iconst (v := 0) hx hb dX11_borrowed_127 (by decide +kernel) ?_
              exact W.iret (v := 0) hx hb hr (fun t ht hW => ⟨⟨0, (z_24, fz_25), rfl, ⟨hVz_24, hAz_24, hRz_24⟩, ⟨by rw [ht]; exact hP, va_K.moved hW.alike hK, hD⟩⟩, hS.F ht⟩) hS.2.2 dX11_borrowed_128
            · have dc_27 := c_nle (a := x_26.toInt) (b := y_23.toInt) rfl rfl c_27
              refine lv_iload_n hx hb dX11_borrowed_71 rfl (lv_at hl 0 rfl) ?_
              refine lv_iload_n hx hb dX11_borrowed_72 rfl (lv_at hl 2 rfl) ?_
              refine lv_icmp_eq (tgt := 121) hx hb dX11_borrowed_73 (by decide +kernel) (fun c_28 => ?_) (fun c_28 => ?_)
              · have dc_28 := c_eq (a := y_23.toInt) (b := x1.toInt) rfl rfl c_28
                obtain ⟨x_29, ex_29⟩ : ∃ zq : Int32, y_23 + 1 = zq := ⟨_, rfl⟩
                have hx_29 : x_29.toInt = y_23.toInt + 1 := (iv_to ex_29).symm.trans (ad_i rfl (by decide +kernel) (by omega) (by omega))
                refine lv_iinc (v := x_29) (lv' := [(2, .int x_29), (0, .ref g0), (1, .int x1)]) hx hb dX11_borrowed_121 hl (k := 0) rfl ex_29 (by decide +kernel) rfl (fun ls hl => ?_)
                clear ex_29
                refine lv_goto (tgt := 63) hx hb dX11_borrowed_124 (by decide +kernel) ?_
                exact ih (n - 1) (by omega) x_29 z_24 fz_25 _ _ ls (by omega) (by omega) hVz_24 hAz_24 hRz_24 hP hD hS (lv_sub hl [0, 1, 2] rfl)
              · have dc_28 := c_ne (a := y_23.toInt) (b := x1.toInt) rfl rfl c_28
                refine lv_aload_n hx hb dX11_borrowed_76 rfl (lv_at hl 1 rfl) ?_
                refine va_get (D := (dC, dI)) (ci := 11) (v := .ref (pq 24)) (C := RX11) (T := TX11) (N := 63) hx hb hts in_wsX11_borrowed_X11 hown hK hP 0 rfl rfl 24 (by decide +kernel) (hts (.fieldLink RX11 82 "ShipOfficeModel" "paper" "[I") iw_X11_borrowed_1) (fun _ h9 => h9) rfl dX11_borrowed_77 ?_
                refine lv_iload_n hx hb dX11_borrowed_80 rfl (lv_at hl 0 rfl) ?_
                refine va_iald hx hb hK hP 25 24 rfl rfl (vp_in_iff.mpr (by omega)) dX11_borrowed_81 ?_
                refine lv_topi (fun x_30 ex_30 => ?_)
                have hx_30 : -1 ≤ x_30.toInt ∧ x_30.toInt ≤ 59 := iv_of ex_30 (hAz_24 24 _)
                have gx_30 : x_30.toInt = (fz_25 24 (y_23 : Int32).toNatClampNeg).toInt := iv_to ex_30
                clear ex_30
                refine lv_aload_n hx hb dX11_borrowed_82 rfl (lv_at hl 1 rfl) ?_
                refine va_get (D := (dC, dI)) (ci := 11) (v := .ref (pq 24)) (C := RX11) (T := TX11) (N := 63) hx hb hts in_wsX11_borrowed_X11 hown hK hP 0 rfl rfl 24 (by decide +kernel) (hts (.fieldLink RX11 82 "ShipOfficeModel" "paper" "[I") iw_X11_borrowed_1) (fun _ h9 => h9) rfl dX11_borrowed_83 ?_
                refine lv_iload_n hx hb dX11_borrowed_86 rfl (lv_at hl 2 rfl) ?_
                refine va_iald hx hb hK hP 25 24 rfl rfl (vp_in_iff.mpr (by omega)) dX11_borrowed_87 ?_
                refine lv_topi (fun x_31 ex_31 => ?_)
                have hx_31 : -1 ≤ x_31.toInt ∧ x_31.toInt ≤ 59 := iv_of ex_31 (hAz_24 24 _)
                have gx_31 : x_31.toInt = (fz_25 24 (x1 : Int32).toNatClampNeg).toInt := iv_to ex_31
                clear ex_31
                refine lv_icmp_ne (tgt := 121) hx hb dX11_borrowed_88 (by decide +kernel) (fun c_32 => ?_) (fun c_32 => ?_)
                · have dc_32 := c_ne (a := x_30.toInt) (b := x_31.toInt) rfl rfl c_32
                  obtain ⟨x_33, ex_33⟩ : ∃ zq : Int32, y_23 + 1 = zq := ⟨_, rfl⟩
                  have hx_33 : x_33.toInt = y_23.toInt + 1 := (iv_to ex_33).symm.trans (ad_i rfl (by decide +kernel) (by omega) (by omega))
                  refine lv_iinc (v := x_33) (lv' := [(2, .int x_33), (0, .ref g0), (1, .int x1)]) hx hb dX11_borrowed_121 hl (k := 0) rfl ex_33 (by decide +kernel) rfl (fun ls hl => ?_)
                  clear ex_33
                  refine lv_goto (tgt := 63) hx hb dX11_borrowed_124 (by decide +kernel) ?_
                  exact ih (n - 1) (by omega) x_33 z_24 fz_25 _ _ ls (by omega) (by omega) hVz_24 hAz_24 hRz_24 hP hD hS (lv_sub hl [0, 1, 2] rfl)
                · have dc_32 := c_eq (a := x_30.toInt) (b := x_31.toInt) rfl rfl c_32
                  refine lv_aload_n hx hb dX11_borrowed_91 rfl (lv_at hl 1 rfl) ?_
                  refine va_get (D := (dC, dI)) (ci := 11) (v := .ref (pq 25)) (C := RX11) (T := TX11) (N := 63) hx hb hts in_wsX11_borrowed_X11 hown hK hP 0 rfl rfl 25 (by decide +kernel) (hts (.fieldLink RX11 85 "ShipOfficeModel" "signed" "[I") iw_X11_borrowed_5) (fun _ h9 => h9) rfl dX11_borrowed_92 ?_
                  refine lv_iload_n hx hb dX11_borrowed_95 rfl (lv_at hl 0 rfl) ?_
                  refine va_iald hx hb hK hP 26 25 rfl rfl (vp_in_iff.mpr (by omega)) dX11_borrowed_96 ?_
                  refine lv_topi (fun x_34 ex_34 => ?_)
                  have hx_34 : 0 ≤ x_34.toInt ∧ x_34.toInt ≤ 3000 := iv_of ex_34 (hAz_24 25 _)
                  clear ex_34
                  refine lv_aload_n hx hb dX11_borrowed_97 rfl (lv_at hl 1 rfl) ?_
                  refine lv_iload_n hx hb dX11_borrowed_98 rfl (lv_at hl 2 rfl) ?_
                  have hFc : ∀ q, va_A [] H.size q → A q := pu_free hS hA
                  refine va_calli (va_runV (As := [.int x1]) (rest := [.int x_34]) ⟨hx, hb, hml, hown, hts⟩ (c_X11_endOf l dC dI H.size g0 pq cp z_24 fz_25 x1 (vp_in_iff.mpr (by omega))) (cwV 1 hts gX11_borrowed_X11_endOf rfl rfl rfl (by decide +kernel) ⟨(Nat.le_of_ble_eq_true rfl), (Nat.le_of_ble_eq_true rfl)⟩) (pr_V (r := (RX11, TX11, 63)) hP hK hD 0 11 rfl rfl) rfl rfl hl.1 rfl (lv_room (Nat.le_of_ble_eq_true rfl)) dX11_borrowed_99 ⟨(Nat.le_of_ble_eq_true rfl), (Nat.le_of_ble_eq_true rfl)⟩) hS (fun q _ h => hFc q h) hFc (fun r_36 u t H locs ht hvm w_35 hB hz1 hk1 hS => ?_)
                  have hP := pu_keep hP hk1
                  clear hk1 hz1 hvm hB ht hFc
                  refine lv_icmp_gt (tgt := 121) hx hb dX11_borrowed_102 (by decide +kernel) (fun c_37 => ?_) (fun c_37 => ?_)
                  · have dc_37 := c_lt (a := r_36.toInt) (b := x_34.toInt) rfl rfl c_37
                    obtain ⟨x_38, ex_38⟩ : ∃ zq : Int32, y_23 + 1 = zq := ⟨_, rfl⟩
                    have hx_38 : x_38.toInt = y_23.toInt + 1 := (iv_to ex_38).symm.trans (ad_i rfl (by decide +kernel) (by omega) (by omega))
                    refine lv_iinc (v := x_38) (lv' := [(2, .int x_38), (0, .ref g0), (1, .int x1)]) hx hb dX11_borrowed_121 hl (k := 0) rfl ex_38 (by decide +kernel) rfl (fun ls hl => ?_)
                    clear ex_38
                    refine lv_goto (tgt := 63) hx hb dX11_borrowed_124 (by decide +kernel) ?_
                    exact ih (n - 1) (by omega) x_38 z_24 fz_25 _ _ ls (by omega) (by omega) hVz_24 hAz_24 hRz_24 hP hD hS (lv_sub hl [0, 1, 2] rfl)
                  · have dc_37 := c_nlt (a := r_36.toInt) (b := x_34.toInt) rfl rfl c_37
                    refine lv_aload_n hx hb dX11_borrowed_105 rfl (lv_at hl 1 rfl) ?_
                    refine va_get (D := (dC, dI)) (ci := 11) (v := .ref (pq 25)) (C := RX11) (T := TX11) (N := 63) hx hb hts in_wsX11_borrowed_X11 hown hK hP 0 rfl rfl 25 (by decide +kernel) (hts (.fieldLink RX11 85 "ShipOfficeModel" "signed" "[I") iw_X11_borrowed_5) (fun _ h9 => h9) rfl dX11_borrowed_106 ?_
                    refine lv_iload_n hx hb dX11_borrowed_109 rfl (lv_at hl 2 rfl) ?_
                    refine va_iald hx hb hK hP 26 25 rfl rfl (vp_in_iff.mpr (by omega)) dX11_borrowed_110 ?_
                    refine lv_topi (fun x_39 ex_39 => ?_)
                    have hx_39 : 0 ≤ x_39.toInt ∧ x_39.toInt ≤ 3000 := iv_of ex_39 (hAz_24 25 _)
                    clear ex_39
                    refine lv_aload_n hx hb dX11_borrowed_111 rfl (lv_at hl 1 rfl) ?_
                    refine lv_iload_n hx hb dX11_borrowed_112 rfl (lv_at hl 0 rfl) ?_
                    have hFc : ∀ q, va_A [] H.size q → A q := pu_free hS hA
                    refine va_calli (va_runV (As := [.int y_23]) (rest := [.int x_39]) ⟨hx, hb, hml, hown, hts⟩ (c_X11_endOf l dC dI H.size g0 pq cp z_24 fz_25 y_23 (vp_in_iff.mpr (by omega))) (cwV 1 hts gX11_borrowed_X11_endOf rfl rfl rfl (by decide +kernel) ⟨(Nat.le_of_ble_eq_true rfl), (Nat.le_of_ble_eq_true rfl)⟩) (pr_V (r := (RX11, TX11, 63)) hP hK hD 0 11 rfl rfl) rfl rfl hl.1 rfl (lv_room (Nat.le_of_ble_eq_true rfl)) dX11_borrowed_113 ⟨(Nat.le_of_ble_eq_true rfl), (Nat.le_of_ble_eq_true rfl)⟩) hS (fun q _ h => hFc q h) hFc (fun r_41 u t H locs ht hvm w_40 hB hz1 hk1 hS => ?_)
                    have hP := pu_keep hP hk1
                    clear hk1 hz1 hvm hB ht hFc
                    refine lv_icmp_gt (tgt := 121) hx hb dX11_borrowed_116 (by decide +kernel) (fun c_42 => ?_) (fun c_42 => ?_)
                    · have dc_42 := c_lt (a := r_41.toInt) (b := x_39.toInt) rfl rfl c_42
                      obtain ⟨x_43, ex_43⟩ : ∃ zq : Int32, y_23 + 1 = zq := ⟨_, rfl⟩
                      have hx_43 : x_43.toInt = y_23.toInt + 1 := (iv_to ex_43).symm.trans (ad_i rfl (by decide +kernel) (by omega) (by omega))
                      refine lv_iinc (v := x_43) (lv' := [(2, .int x_43), (0, .ref g0), (1, .int x1)]) hx hb dX11_borrowed_121 hl (k := 0) rfl ex_43 (by decide +kernel) rfl (fun ls hl => ?_)
                      clear ex_43
                      refine lv_goto (tgt := 63) hx hb dX11_borrowed_124 (by decide +kernel) ?_
                      exact ih (n - 1) (by omega) x_43 z_24 fz_25 _ _ ls (by omega) (by omega) hVz_24 hAz_24 hRz_24 hP hD hS (lv_sub hl [0, 1, 2] rfl)
                    · have dc_42 := c_nlt (a := r_41.toInt) (b := x_39.toInt) rfl rfl c_42
                      refine lv_iconst (v := 1) hx hb dX11_borrowed_119 (by decide +kernel) ?_
                      exact W.iret (v := 1) hx hb hr (fun t ht hW => ⟨⟨1, (z_24, fz_25), rfl, ⟨hVz_24, hAz_24, hRz_24⟩, ⟨by rw [ht]; exact hP, va_K.moved hW.alike hK, hD⟩⟩, hS.F ht⟩) hS.2.2 dX11_borrowed_120
        have kc_44 : (0 : Int32).toInt = 0 := by decide
        exact cut_22 61 0 v_9 fa_10 _ _ ls (by omega) (by decide +kernel) hV_11 hA_12 R_15 hP hD hS (lv_sub hl [0, 1, 2] rfl)
      · have dc_21 := c_ne (a := x_18.toInt) (b := x_20.toInt) rfl rfl c_21
        refine lv_iconst (v := 1) hx hb dX11_borrowed_59 (by decide +kernel) ?_
        exact W.iret (v := 1) hx hb hr (fun t ht hW => ⟨⟨1, (v_9, fa_10), rfl, ⟨hV_11, hA_12, R_15⟩, ⟨by rw [ht]; exact hP, va_K.moved hW.alike hK, hD⟩⟩, hS.F ht⟩) hS.2.2 dX11_borrowed_60
    · have dc_6 := c_nle (a := 0) (b := x_5.toInt) (by decide +kernel) rfl c_6
      refine lv_iconst (v := 0) hx hb dX11_borrowed_23 (by decide +kernel) ?_
      exact W.iret (v := 0) hx hb hr (fun t ht hW => ⟨⟨0, (v, fa), rfl, ⟨gV, gA, mX.rf⟩, ⟨by rw [ht]; exact hP, va_K.moved hW.alike hK, hD⟩⟩, hS.F ht⟩) hS.2.2 dX11_borrowed_24
  · have dc_3 := c_eq (a := r_2.toInt) (b := 0) rfl (by decide +kernel) c_3
    refine lv_aload_n hx hb dX11_borrowed_8 rfl (lv_at hl 0 rfl) ?_
    refine lv_iconst (v := (-1)) hx hb dX11_borrowed_9 (by decide +kernel) ?_
    have hFc := va_free (wc := (mW g0 pq cp v fa)) hD hS hA (List.range 48) rfl
    refine va_calli (va_runV (As := [.int (-1)]) (rest := []) ⟨hx, hb, hml, hown, hts⟩ (c_X11_refuse l dC dI H.size g0 pq cp v fa (-1) (by unfold vp_in; decide)) (cwV 1 hts gX11_borrowed_X11_refuse rfl rfl rfl (by decide +kernel) ⟨(Nat.le_of_ble_eq_true rfl), (Nat.le_of_ble_eq_true rfl)⟩) (pr_V (r := (RX11, TX11, 63)) hP hK hD 0 11 rfl rfl) rfl rfl hl.1 rfl (lv_room (Nat.le_of_ble_eq_true rfl)) dX11_borrowed_10 ⟨(Nat.le_of_ble_eq_true rfl), (Nat.le_of_ble_eq_true rfl)⟩) hS (fun q _ h => hFc q h) hFc (fun r_46 u t H locs ht hvm w_45 hB hz1 hk1 hS => ?_)
    obtain ⟨v_47, fa_48⟩ := u
    obtain ⟨hP1, hK1, hD1⟩ := hB
    rw [ht] at hP1
    have hP : va_P (dC, dI) vwCl (mW g0 pq cp v_47 fa_48) H := hP1
    have hD : va_D A (mW g0 pq cp v_47 fa_48) := hD1.weaken (fun _ _ _ h => hFc _ h)
    clear hP1 hK1 hD1 hk1 hz1 hvm ht hFc
    obtain ⟨rfl, w_45⟩ := w_45
    have hVv_47 : mV v_47 := sm0_V w_45 gV
    have hAv_47 : mA fa_48 := sm0_A w_45 gA
    have hRv_47 : mX [0, 45, 47, 48, 49, 50, 51, 52, 53, 54, 55, 56, 57, 58, 59, 60] v fa v_47 fa_48 := mX.st mX.rf (mX.s0 w_45) (by decide +kernel)
    exact W.iret (v := (-1)) hx hb hr (fun t ht hW => ⟨⟨(-1), (v_47, fa_48), rfl, ⟨hVv_47, hAv_47, hRv_47⟩, ⟨by rw [ht]; exact hP, va_K.moved hW.alike hK, hD⟩⟩, hS.F ht⟩) hS.2.2 dX11_borrowed_13
