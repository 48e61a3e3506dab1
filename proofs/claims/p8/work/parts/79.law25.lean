theorem gw_X10_owed : wsX10_owed.all goodWord = true := by decide +kernel
theorem gw_X10_agreementOf : wsX10_agreementOf.all goodWord = true := by decide +kernel
theorem gw_X11_owed : wsX11_owed.all goodWord = true := by decide +kernel
theorem gw_X11_agreementOf : wsX11_agreementOf.all goodWord = true := by decide +kernel
theorem il_L_law_37 : ∀ w ∈ wsL_law_r37, w ∈ wsL_law := fun w h => (List.mem_append_left _ (List.mem_append_left _ (List.mem_append_left _ (List.mem_append_left _ (List.mem_append_left _ (List.mem_append_left _ (List.mem_append_left _ (List.mem_append_left _ (List.mem_append_left _ (List.mem_append_left _ (List.mem_append_left _ (List.mem_append_left _ (List.mem_append_left _ (List.mem_append_right _ (List.mem_append_right _ (List.mem_append_right _ (List.mem_append_right _ (List.mem_append_right _ (List.mem_append_right _ (List.mem_append_right _ (List.mem_append_right _ (List.mem_append_right _ (List.mem_append_right _ (List.mem_append_right _ (List.mem_append_right _ (List.mem_append_right _ (List.mem_append_right _ (List.mem_append_right _ (List.mem_append_right _ (List.mem_append_right _ (List.mem_append_right _ (List.mem_append_right _ (List.mem_append_right _ (List.mem_append_right _ (List.mem_append_right _ (List.mem_append_right _ (List.mem_append_right _ (List.mem_append_right _ (List.mem_append_right _ (List.mem_append_right _ (List.mem_append_right _ (List.mem_append_right _ (List.mem_append_right _ (List.mem_append_right _ (List.mem_append_right _ (List.mem_append_right _ (List.mem_append_right _ (List.mem_append_right _ (List.mem_append_right _ (List.mem_append_left _ h))))))))))))))))))))))))))))))))))))))))))))))))))
theorem il_L_law_38 : ∀ w ∈ wsL_law_r38, w ∈ wsL_law := fun w h => (List.mem_append_left _ (List.mem_append_left _ (List.mem_append_left _ (List.mem_append_left _ (List.mem_append_left _ (List.mem_append_left _ (List.mem_append_left _ (List.mem_append_left _ (List.mem_append_left _ (List.mem_append_left _ (List.mem_append_left _ (List.mem_append_left _ (List.mem_append_left _ (List.mem_append_right _ (List.mem_append_right _ (List.mem_append_right _ (List.mem_append_right _ (List.mem_append_right _ (List.mem_append_right _ (List.mem_append_right _ (List.mem_append_right _ (List.mem_append_right _ (List.mem_append_right _ (List.mem_append_right _ (List.mem_append_right _ (List.mem_append_right _ (List.mem_append_right _ (List.mem_append_right _ (List.mem_append_right _ (List.mem_append_right _ (List.mem_append_right _ (List.mem_append_right _ (List.mem_append_right _ (List.mem_append_right _ (List.mem_append_right _ (List.mem_append_right _ (List.mem_append_right _ (List.mem_append_right _ (List.mem_append_right _ (List.mem_append_right _ (List.mem_append_right _ (List.mem_append_right _ (List.mem_append_right _ (List.mem_append_right _ (List.mem_append_right _ (List.mem_append_right _ (List.mem_append_right _ (List.mem_append_right _ (List.mem_append_right _ (List.mem_append_right _ (List.mem_append_left _ h)))))))))))))))))))))))))))))))))))))))))))))))))))
theorem il_L_law_39 : ∀ w ∈ wsL_law_r39, w ∈ wsL_law := fun w h => (List.mem_append_left _ (List.mem_append_left _ (List.mem_append_left _ (List.mem_append_left _ (List.mem_append_left _ (List.mem_append_left _ (List.mem_append_left _ (List.mem_append_left _ (List.mem_append_left _ (List.mem_append_left _ (List.mem_append_left _ (List.mem_append_left _ (List.mem_append_left _ (List.mem_append_right _ (List.mem_append_right _ (List.mem_append_right _ (List.mem_append_right _ (List.mem_append_right _ (List.mem_append_right _ (List.mem_append_right _ (List.mem_append_right _ (List.mem_append_right _ (List.mem_append_right _ (List.mem_append_right _ (List.mem_append_right _ (List.mem_append_right _ (List.mem_append_right _ (List.mem_append_right _ (List.mem_append_right _ (List.mem_append_right _ (List.mem_append_right _ (List.mem_append_right _ (List.mem_append_right _ (List.mem_append_right _ (List.mem_append_right _ (List.mem_append_right _ (List.mem_append_right _ (List.mem_append_right _ (List.mem_append_right _ (List.mem_append_right _ (List.mem_append_right _ (List.mem_append_right _ (List.mem_append_right _ (List.mem_append_right _ (List.mem_append_right _ (List.mem_append_right _ (List.mem_append_right _ (List.mem_append_right _ (List.mem_append_right _ (List.mem_append_right _ (List.mem_append_right _ (List.mem_append_left _ h))))))))))))))))))))))))))))))))))))))))))))))))))))
set_option maxRecDepth 100000 in
theorem ggL_law_X10_owed : GoodIn wsL_law wsX10_owed := goodIn_sub (mmC (mmI il_L_law_37 3 rfl) (mmA (mmA (mmA (mmA (mmA (mmA (mmA (mmA (mmA (mmC (mmI il_L_law_37 4 rfl) (mmC (mmI il_L_law_16 1 rfl) (mmC (mmI il_L_law_16 2 rfl) (mmC (mmI il_L_law_16 3 rfl) (mmC (mmI il_L_law_1 2 rfl) (mmC (mmI il_L_law_16 4 rfl) (mmC (mmI il_L_law_12 3 rfl) (mmC (mmI il_L_law_1 18 rfl) (mmC (mmI il_L_law_7 5 rfl) (mmC (mmI il_L_law_7 6 rfl) (mmC (mmI il_L_law_7 7 rfl) (mmC (mmI il_L_law_7 8 rfl) (mmC (mmI il_L_law_2 15 rfl) (mmC (mmI il_L_law_27 2 rfl) (mmC (mmI il_L_law_27 3 rfl) (mmC (mmI il_L_law_27 4 rfl) (mmC (mmI il_L_law_27 5 rfl) (mmC (mmI il_L_law_7 4 rfl) (mmC (mmI il_L_law_37 5 rfl) (mmC (mmI il_L_law_37 6 rfl) (mmC (mmI il_L_law_37 7 rfl) (mmC (mmI il_L_law_37 8 rfl) (mmC (mmI il_L_law_16 9 rfl) (mmC (mmI il_L_law_23 21 rfl) mmN)))))))))))))))))))))))) (mmA (mmC (mmI il_L_law_1 22 rfl) (mmC (mmI il_L_law_34 6 rfl) (mmC (mmI il_L_law_34 7 rfl) (mmC (mmI il_L_law_35 3 rfl) (mmC (mmI il_L_law_37 9 rfl) (mmC (mmI il_L_law_10 1 rfl) (mmC (mmI il_L_law_10 2 rfl) (mmC (mmI il_L_law_10 3 rfl) (mmC (mmI il_L_law_10 4 rfl) (mmC (mmI il_L_law_10 5 rfl) (mmC (mmI il_L_law_10 6 rfl) (mmC (mmI il_L_law_10 7 rfl) (mmC (mmI il_L_law_32 18 rfl) (mmC (mmI il_L_law_30 9 rfl) (mmC (mmI il_L_law_30 10 rfl) (mmC (mmI il_L_law_30 11 rfl) (mmC (mmI il_L_law_12 13 rfl) (mmC (mmI il_L_law_30 12 rfl) (mmC (mmI il_L_law_12 18 rfl) (mmC (mmI il_L_law_30 13 rfl) (mmC (mmI il_L_law_27 7 rfl) (mmC (mmI il_L_law_27 8 rfl) (mmC (mmI il_L_law_27 9 rfl) (mmC (mmI il_L_law_25 16 rfl) mmN)))))))))))))))))))))))) (mmA (mmC (mmI il_L_law_12 17 rfl) (mmC (mmI il_L_law_12 15 rfl) (mmC (mmI il_L_law_27 10 rfl) (mmC (mmI il_L_law_27 11 rfl) (mmC (mmI il_L_law_27 12 rfl) (mmC (mmI il_L_law_27 13 rfl) (mmC (mmI il_L_law_27 14 rfl) (mmC (mmI il_L_law_10 20 rfl) (mmC (mmI il_L_law_27 15 rfl) (mmC (mmI il_L_law_11 11 rfl) (mmC (mmI il_L_law_11 10 rfl) (mmC (mmI il_L_law_27 16 rfl) (mmC (mmI il_L_law_27 17 rfl) (mmC (mmI il_L_law_27 18 rfl) (mmC (mmI il_L_law_27 19 rfl) (mmC (mmI il_L_law_27 20 rfl) (mmC (mmI il_L_law_27 21 rfl) (mmC (mmI il_L_law_27 22 rfl) (mmC (mmI il_L_law_27 23 rfl) (mmC (mmI il_L_law_28 0 rfl) (mmC (mmI il_L_law_28 1 rfl) (mmC (mmI il_L_law_28 2 rfl) (mmC (mmI il_L_law_28 3 rfl) (mmC (mmI il_L_law_28 4 rfl) mmN)))))))))))))))))))))))) (mmA (mmC (mmI il_L_law_28 5 rfl) (mmC (mmI il_L_law_28 6 rfl) (mmC (mmI il_L_law_28 7 rfl) (mmC (mmI il_L_law_11 9 rfl) (mmC (mmI il_L_law_11 8 rfl) (mmC (mmI il_L_law_28 8 rfl) (mmC (mmI il_L_law_28 9 rfl) (mmC (mmI il_L_law_28 10 rfl) (mmC (mmI il_L_law_28 11 rfl) (mmC (mmI il_L_law_28 12 rfl) (mmC (mmI il_L_law_28 13 rfl) (mmC (mmI il_L_law_28 14 rfl) (mmC (mmI il_L_law_28 15 rfl) (mmC (mmI il_L_law_28 16 rfl) (mmC (mmI il_L_law_25 1 rfl) (mmC (mmI il_L_law_25 2 rfl) (mmC (mmI il_L_law_1 21 rfl) (mmC (mmI il_L_law_25 3 rfl) (mmC (mmI il_L_law_2 22 rfl) (mmC (mmI il_L_law_21 17 rfl) (mmC (mmI il_L_law_2 21 rfl) (mmC (mmI il_L_law_25 4 rfl) (mmC (mmI il_L_law_25 5 rfl) (mmC (mmI il_L_law_30 14 rfl) mmN)))))))))))))))))))))))) (mmA (mmC (mmI il_L_law_30 15 rfl) (mmC (mmI il_L_law_30 16 rfl) (mmC (mmI il_L_law_30 17 rfl) (mmC (mmI il_L_law_30 18 rfl) (mmC (mmI il_L_law_30 19 rfl) (mmC (mmI il_L_law_30 20 rfl) (mmC (mmI il_L_law_30 21 rfl) (mmC (mmI il_L_law_30 22 rfl) (mmC (mmI il_L_law_12 16 rfl) (mmC (mmI il_L_law_30 23 rfl) (mmC (mmI il_L_law_31 0 rfl) (mmC (mmI il_L_law_31 1 rfl) (mmC (mmI il_L_law_31 2 rfl) (mmC (mmI il_L_law_31 3 rfl) (mmC (mmI il_L_law_31 4 rfl) (mmC (mmI il_L_law_31 5 rfl) (mmC (mmI il_L_law_11 7 rfl) (mmC (mmI il_L_law_31 6 rfl) (mmC (mmI il_L_law_31 7 rfl) (mmC (mmI il_L_law_31 8 rfl) (mmC (mmI il_L_law_31 9 rfl) (mmC (mmI il_L_law_31 10 rfl) (mmC (mmI il_L_law_37 10 rfl) (mmC (mmI il_L_law_37 11 rfl) mmN)))))))))))))))))))))))) (mmA (mmC (mmI il_L_law_37 12 rfl) (mmC (mmI il_L_law_37 13 rfl) (mmC (mmI il_L_law_37 14 rfl) (mmC (mmI il_L_law_37 15 rfl) (mmC (mmI il_L_law_37 16 rfl) (mmC (mmI il_L_law_37 17 rfl) (mmC (mmI il_L_law_37 18 rfl) (mmC (mmI il_L_law_37 19 rfl) (mmC (mmI il_L_law_37 20 rfl) (mmC (mmI il_L_law_35 19 rfl) (mmC (mmI il_L_law_35 20 rfl) (mmC (mmI il_L_law_35 21 rfl) (mmC (mmI il_L_law_35 22 rfl) (mmC (mmI il_L_law_35 23 rfl) (mmC (mmI il_L_law_35 2 rfl) (mmC (mmI il_L_law_32 19 rfl) (mmC (mmI il_L_law_32 20 rfl) (mmC (mmI il_L_law_32 21 rfl) (mmC (mmI il_L_law_32 22 rfl) (mmC (mmI il_L_law_2 13 rfl) (mmC (mmI il_L_law_23 22 rfl) (mmC (mmI il_L_law_24 12 rfl) (mmC (mmI il_L_law_12 4 rfl) (mmC (mmI il_L_law_25 0 rfl) mmN)))))))))))))))))))))))) (mmA (mmC (mmI il_L_law_24 20 rfl) (mmC (mmI il_L_law_24 21 rfl) (mmC (mmI il_L_law_24 22 rfl) (mmC (mmI il_L_law_8 22 rfl) (mmC (mmI il_L_law_24 23 rfl) (mmC (mmI il_L_law_9 7 rfl) (mmC (mmI il_L_law_32 23 rfl) (mmC (mmI il_L_law_33 0 rfl) (mmC (mmI il_L_law_33 1 rfl) (mmC (mmI il_L_law_3 0 rfl) (mmC (mmI il_L_law_33 2 rfl) (mmC (mmI il_L_law_3 7 rfl) (mmC (mmI il_L_law_33 3 rfl) (mmC (mmI il_L_law_33 4 rfl) (mmC (mmI il_L_law_33 5 rfl) (mmC (mmI il_L_law_33 6 rfl) (mmC (mmI il_L_law_33 7 rfl) (mmC (mmI il_L_law_27 6 rfl) (mmC (mmI il_L_law_33 8 rfl) (mmC (mmI il_L_law_33 9 rfl) (mmC (mmI il_L_law_33 10 rfl) (mmC (mmI il_L_law_33 11 rfl) (mmC (mmI il_L_law_33 12 rfl) (mmC (mmI il_L_law_25 6 rfl) mmN)))))))))))))))))))))))) (mmA (mmC (mmI il_L_law_3 11 rfl) (mmC (mmI il_L_law_3 12 rfl) (mmC (mmI il_L_law_3 13 rfl) (mmC (mmI il_L_law_3 8 rfl) (mmC (mmI il_L_law_3 14 rfl) (mmC (mmI il_L_law_3 15 rfl) (mmC (mmI il_L_law_3 16 rfl) (mmC (mmI il_L_law_3 17 rfl) (mmC (mmI il_L_law_3 18 rfl) (mmC (mmI il_L_law_3 19 rfl) (mmC (mmI il_L_law_3 20 rfl) (mmC (mmI il_L_law_3 21 rfl) (mmC (mmI il_L_law_3 22 rfl) (mmC (mmI il_L_law_3 23 rfl) (mmC (mmI il_L_law_37 21 rfl) (mmC (mmI il_L_law_37 22 rfl) (mmC (mmI il_L_law_37 23 rfl) (mmC (mmI il_L_law_38 0 rfl) (mmC (mmI il_L_law_36 18 rfl) (mmC (mmI il_L_law_25 13 rfl) (mmC (mmI il_L_law_25 14 rfl) (mmC (mmI il_L_law_38 1 rfl) (mmC (mmI il_L_law_38 2 rfl) (mmC (mmI il_L_law_38 3 rfl) mmN)))))))))))))))))))))))) (mmC (mmI il_L_law_38 4 rfl) mmN))))))))) il_L_law_47) il_L_law_56) il_L_law_58) il_L_law_57) il_L_law_53) il_L_law_55) il_L_law_49) il_L_law_54)) gw_X10_owed
theorem gL_law_X10_owed : GoodIn wsL_law (wsV RL 118 RX10 yX10_owed wsX10_owed) := goodIn_app (goodIn_sub (mmC (mmI il_L_law_37 0 rfl) (mmC (mmI il_L_law_37 1 rfl) (mmC (mmI il_L_law_37 2 rfl) (mmC (mmI il_L_law_1 2 rfl) mmN)))) (by decide +kernel)) ggL_law_X10_owed
set_option maxRecDepth 100000 in
theorem ggL_law_X11_owed : GoodIn wsL_law wsX11_owed := goodIn_sub (mmC (mmI il_L_law_38 8 rfl) (mmA (mmA (mmC (mmI il_L_law_16 19 rfl) (mmC (mmI il_L_law_16 20 rfl) (mmC (mmI il_L_law_16 21 rfl) (mmC (mmI il_L_law_1 5 rfl) (mmC (mmI il_L_law_16 22 rfl) (mmC (mmI il_L_law_13 0 rfl) (mmC (mmI il_L_law_8 12 rfl) (mmC (mmI il_L_law_8 13 rfl) (mmC (mmI il_L_law_8 14 rfl) (mmC (mmI il_L_law_28 21 rfl) (mmC (mmI il_L_law_28 22 rfl) (mmC (mmI il_L_law_28 23 rfl) (mmC (mmI il_L_law_29 0 rfl) (mmC (mmI il_L_law_7 13 rfl) (mmC (mmI il_L_law_38 9 rfl) (mmC (mmI il_L_law_38 10 rfl) (mmC (mmI il_L_law_38 11 rfl) (mmC (mmI il_L_law_38 12 rfl) (mmC (mmI il_L_law_38 13 rfl) (mmC (mmI il_L_law_7 14 rfl) (mmC (mmI il_L_law_7 15 rfl) (mmC (mmI il_L_law_7 16 rfl) (mmC (mmI il_L_law_7 17 rfl) (mmC (mmI il_L_law_5 0 rfl) mmN)))))))))))))))))))))))) (mmA (mmC (mmI il_L_law_38 14 rfl) (mmC (mmI il_L_law_38 15 rfl) (mmC (mmI il_L_law_38 16 rfl) (mmC (mmI il_L_law_38 17 rfl) (mmC (mmI il_L_law_6 1 rfl) (mmC (mmI il_L_law_5 22 rfl) (mmC (mmI il_L_law_38 18 rfl) (mmC (mmI il_L_law_5 21 rfl) (mmC (mmI il_L_law_6 3 rfl) (mmC (mmI il_L_law_6 5 rfl) (mmC (mmI il_L_law_6 6 rfl) (mmC (mmI il_L_law_6 9 rfl) (mmC (mmI il_L_law_6 7 rfl) (mmC (mmI il_L_law_6 11 rfl) (mmC (mmI il_L_law_6 12 rfl) (mmC (mmI il_L_law_5 14 rfl) (mmC (mmI il_L_law_33 17 rfl) (mmC (mmI il_L_law_31 15 rfl) (mmC (mmI il_L_law_31 16 rfl) (mmC (mmI il_L_law_31 17 rfl) (mmC (mmI il_L_law_31 18 rfl) (mmC (mmI il_L_law_29 1 rfl) (mmC (mmI il_L_law_29 2 rfl) (mmC (mmI il_L_law_29 3 rfl) mmN)))))))))))))))))))))))) (mmA (mmC (mmI il_L_law_29 4 rfl) (mmC (mmI il_L_law_6 2 rfl) (mmC (mmI il_L_law_5 10 rfl) (mmC (mmI il_L_law_29 5 rfl) (mmC (mmI il_L_law_29 6 rfl) (mmC (mmI il_L_law_29 7 rfl) (mmC (mmI il_L_law_29 8 rfl) (mmC (mmI il_L_law_13 9 rfl) (mmC (mmI il_L_law_5 11 rfl) (mmC (mmI il_L_law_5 13 rfl) (mmC (mmI il_L_law_5 12 rfl) (mmC (mmI il_L_law_29 9 rfl) (mmC (mmI il_L_law_29 10 rfl) (mmC (mmI il_L_law_29 11 rfl) (mmC (mmI il_L_law_29 12 rfl) (mmC (mmI il_L_law_29 13 rfl) (mmC (mmI il_L_law_29 14 rfl) (mmC (mmI il_L_law_29 15 rfl) (mmC (mmI il_L_law_29 16 rfl) (mmC (mmI il_L_law_29 17 rfl) (mmC (mmI il_L_law_29 18 rfl) (mmC (mmI il_L_law_29 19 rfl) (mmC (mmI il_L_law_29 20 rfl) (mmC (mmI il_L_law_29 21 rfl) mmN)))))))))))))))))))))))) (mmA (mmC (mmI il_L_law_29 22 rfl) (mmC (mmI il_L_law_29 23 rfl) (mmC (mmI il_L_law_30 0 rfl) (mmC (mmI il_L_law_26 2 rfl) (mmC (mmI il_L_law_26 3 rfl) (mmC (mmI il_L_law_26 4 rfl) (mmC (mmI il_L_law_26 5 rfl) (mmC (mmI il_L_law_6 16 rfl) (mmC (mmI il_L_law_30 1 rfl) (mmC (mmI il_L_law_30 2 rfl) (mmC (mmI il_L_law_30 3 rfl) (mmC (mmI il_L_law_30 4 rfl) (mmC (mmI il_L_law_26 6 rfl) (mmC (mmI il_L_law_26 7 rfl) (mmC (mmI il_L_law_26 8 rfl) (mmC (mmI il_L_law_26 9 rfl) (mmC (mmI il_L_law_5 16 rfl) (mmC (mmI il_L_law_26 10 rfl) (mmC (mmI il_L_law_26 11 rfl) (mmC (mmI il_L_law_26 12 rfl) (mmC (mmI il_L_law_26 13 rfl) (mmC (mmI il_L_law_21 22 rfl) (mmC (mmI il_L_law_5 17 rfl) (mmC (mmI il_L_law_5 18 rfl) mmN)))))))))))))))))))))))) (mmA (mmC (mmI il_L_law_22 1 rfl) (mmC (mmI il_L_law_22 2 rfl) (mmC (mmI il_L_law_22 3 rfl) (mmC (mmI il_L_law_22 4 rfl) (mmC (mmI il_L_law_22 5 rfl) (mmC (mmI il_L_law_22 6 rfl) (mmC (mmI il_L_law_22 0 rfl) (mmC (mmI il_L_law_22 7 rfl) (mmC (mmI il_L_law_21 23 rfl) (mmC (mmI il_L_law_22 8 rfl) (mmC (mmI il_L_law_22 9 rfl) (mmC (mmI il_L_law_22 10 rfl) (mmC (mmI il_L_law_22 11 rfl) (mmC (mmI il_L_law_22 12 rfl) (mmC (mmI il_L_law_22 13 rfl) (mmC (mmI il_L_law_22 14 rfl) (mmC (mmI il_L_law_22 15 rfl) (mmC (mmI il_L_law_22 16 rfl) (mmC (mmI il_L_law_22 17 rfl) (mmC (mmI il_L_law_22 18 rfl) (mmC (mmI il_L_law_6 15 rfl) (mmC (mmI il_L_law_5 19 rfl) (mmC (mmI il_L_law_22 19 rfl) (mmC (mmI il_L_law_22 20 rfl) mmN)))))))))))))))))))))))) (mmA (mmC (mmI il_L_law_22 21 rfl) (mmC (mmI il_L_law_22 22 rfl) (mmC (mmI il_L_law_22 23 rfl) (mmC (mmI il_L_law_23 0 rfl) (mmC (mmI il_L_law_23 1 rfl) (mmC (mmI il_L_law_23 2 rfl) (mmC (mmI il_L_law_23 3 rfl) (mmC (mmI il_L_law_23 4 rfl) (mmC (mmI il_L_law_23 5 rfl) (mmC (mmI il_L_law_23 6 rfl) (mmC (mmI il_L_law_23 7 rfl) (mmC (mmI il_L_law_23 8 rfl) (mmC (mmI il_L_law_23 9 rfl) (mmC (mmI il_L_law_23 10 rfl) (mmC (mmI il_L_law_23 11 rfl) (mmC (mmI il_L_law_23 12 rfl) (mmC (mmI il_L_law_23 13 rfl) (mmC (mmI il_L_law_23 14 rfl) (mmC (mmI il_L_law_23 15 rfl) (mmC (mmI il_L_law_36 4 rfl) (mmC (mmI il_L_law_36 5 rfl) (mmC (mmI il_L_law_36 6 rfl) (mmC (mmI il_L_law_36 7 rfl) (mmC (mmI il_L_law_6 10 rfl) mmN)))))))))))))))))))))))) (mmC (mmI il_L_law_6 14 rfl) (mmC (mmI il_L_law_33 18 rfl) (mmC (mmI il_L_law_33 19 rfl) (mmC (mmI il_L_law_33 20 rfl) (mmC (mmI il_L_law_33 21 rfl) (mmC (mmI il_L_law_5 23 rfl) (mmC (mmI il_L_law_5 4 rfl) (mmC (mmI il_L_law_5 20 rfl) (mmC (mmI il_L_law_33 22 rfl) (mmC (mmI il_L_law_33 23 rfl) (mmC (mmI il_L_law_34 0 rfl) (mmC (mmI il_L_law_34 1 rfl) mmN)))))))))))))))))) il_L_law_48)) gw_X11_owed
theorem gL_law_X11_owed : GoodIn wsL_law (wsV RL 121 RX11 yX11_owed wsX11_owed) := goodIn_app (goodIn_sub (mmC (mmI il_L_law_38 5 rfl) (mmC (mmI il_L_law_38 6 rfl) (mmC (mmI il_L_law_38 7 rfl) (mmC (mmI il_L_law_1 5 rfl) mmN)))) (by decide +kernel)) ggL_law_X11_owed
set_option maxRecDepth 100000 in
theorem ggL_law_X10_agreementOf : GoodIn wsL_law wsX10_agreementOf := goodIn_sub (mmC (mmI il_L_law_38 22 rfl) (mmA (mmA (mmA (mmA (mmA (mmC (mmI il_L_law_24 12 rfl) (mmC (mmI il_L_law_38 23 rfl) (mmC (mmI il_L_law_12 4 rfl) (mmC (mmI il_L_law_39 0 rfl) (mmC (mmI il_L_law_23 21 rfl) (mmC (mmI il_L_law_23 22 rfl) (mmC (mmI il_L_law_16 9 rfl) (mmC (mmI il_L_law_12 5 rfl) (mmC (mmI il_L_law_12 2 rfl) (mmC (mmI il_L_law_31 23 rfl) (mmC (mmI il_L_law_32 8 rfl) (mmC (mmI il_L_law_32 17 rfl) (mmC (mmI il_L_law_16 1 rfl) (mmC (mmI il_L_law_16 2 rfl) (mmC (mmI il_L_law_16 3 rfl) (mmC (mmI il_L_law_1 2 rfl) (mmC (mmI il_L_law_16 4 rfl) (mmC (mmI il_L_law_12 3 rfl) (mmC (mmI il_L_law_1 18 rfl) (mmC (mmI il_L_law_7 5 rfl) (mmC (mmI il_L_law_7 6 rfl) (mmC (mmI il_L_law_7 7 rfl) (mmC (mmI il_L_law_7 8 rfl) (mmC (mmI il_L_law_2 15 rfl) mmN)))))))))))))))))))))))) (mmC (mmI il_L_law_12 10 rfl) (mmC (mmI il_L_law_12 11 rfl) (mmC (mmI il_L_law_12 12 rfl) (mmC (mmI il_L_law_12 13 rfl) (mmC (mmI il_L_law_12 14 rfl) (mmC (mmI il_L_law_12 15 rfl) (mmC (mmI il_L_law_12 16 rfl) (mmC (mmI il_L_law_12 17 rfl) (mmC (mmI il_L_law_12 18 rfl) (mmC (mmI il_L_law_12 19 rfl) mmN))))))))))) il_L_law_56) il_L_law_54) il_L_law_55) il_L_law_47)) gw_X10_agreementOf
theorem gL_law_X10_agreementOf : GoodIn wsL_law (wsV RL 122 RX10 yX10_agreementOf wsX10_agreementOf) := goodIn_app (goodIn_sub (mmC (mmI il_L_law_38 19 rfl) (mmC (mmI il_L_law_38 20 rfl) (mmC (mmI il_L_law_38 21 rfl) (mmC (mmI il_L_law_1 2 rfl) mmN)))) (by decide +kernel)) ggL_law_X10_agreementOf
set_option maxRecDepth 100000 in
theorem ggL_law_X11_agreementOf : GoodIn wsL_law wsX11_agreementOf := goodIn_sub (mmC (mmI il_L_law_39 4 rfl) (mmA (mmA (mmC (mmI il_L_law_5 20 rfl) (mmC (mmI il_L_law_5 21 rfl) (mmC (mmI il_L_law_5 22 rfl) (mmC (mmI il_L_law_5 23 rfl) (mmC (mmI il_L_law_6 1 rfl) (mmC (mmI il_L_law_6 2 rfl) (mmC (mmI il_L_law_6 3 rfl) (mmC (mmI il_L_law_6 4 rfl) (mmC (mmI il_L_law_6 5 rfl) (mmC (mmI il_L_law_16 19 rfl) (mmC (mmI il_L_law_16 20 rfl) (mmC (mmI il_L_law_16 21 rfl) (mmC (mmI il_L_law_1 5 rfl) (mmC (mmI il_L_law_16 22 rfl) (mmC (mmI il_L_law_13 0 rfl) (mmC (mmI il_L_law_8 12 rfl) (mmC (mmI il_L_law_8 13 rfl) (mmC (mmI il_L_law_8 14 rfl) (mmC (mmI il_L_law_7 14 rfl) (mmC (mmI il_L_law_7 15 rfl) (mmC (mmI il_L_law_7 16 rfl) (mmC (mmI il_L_law_7 17 rfl) (mmC (mmI il_L_law_5 0 rfl) (mmC (mmI il_L_law_13 10 rfl) mmN)))))))))))))))))))))))) (mmC (mmI il_L_law_13 11 rfl) (mmC (mmI il_L_law_13 12 rfl) (mmC (mmI il_L_law_13 13 rfl) (mmC (mmI il_L_law_13 5 rfl) (mmC (mmI il_L_law_13 6 rfl) (mmC (mmI il_L_law_13 7 rfl) (mmC (mmI il_L_law_13 8 rfl) (mmC (mmI il_L_law_13 9 rfl) (mmC (mmI il_L_law_5 10 rfl) (mmC (mmI il_L_law_5 11 rfl) mmN))))))))))) il_L_law_48)) gw_X11_agreementOf
theorem gL_law_X11_agreementOf : GoodIn wsL_law (wsV RL 125 RX11 yX11_agreementOf wsX11_agreementOf) := goodIn_app (goodIn_sub (mmC (mmI il_L_law_39 1 rfl) (mmC (mmI il_L_law_39 2 rfl) (mmC (mmI il_L_law_39 3 rfl) (mmC (mmI il_L_law_1 5 rfl) mmN)))) (by decide +kernel)) ggL_law_X11_agreementOf
theorem dL_law_1146 : decode cL_law 1146 = .ok (.aload_n 1, 1) := by decide +kernel
theorem dL_law_1147 : decode cL_law 1147 = .ok (.aload_n 0, 1) := by decide +kernel
theorem dL_law_1148 : decode cL_law 1148 = .ok (.iload_n 3, 1) := by decide +kernel
theorem dL_law_1149 : decode cL_law 1149 = .ok (.iconst 1, 1) := by decide +kernel
theorem dL_law_1150 : decode cL_law 1150 = .ok (.iadd, 1) := by decide +kernel
theorem dL_law_1151 : decode cL_law 1151 = .ok (.iaload, 1) := by decide +kernel
theorem dL_law_1152 : decode cL_law 1152 = .ok (.aload_n 0, 1) := by decide +kernel
theorem dL_law_1153 : decode cL_law 1153 = .ok (.iload_n 3, 1) := by decide +kernel
theorem dL_law_1154 : decode cL_law 1154 = .ok (.iconst 2, 1) := by decide +kernel
theorem dL_law_1155 : decode cL_law 1155 = .ok (.iadd, 1) := by decide +kernel
theorem dL_law_1156 : decode cL_law 1156 = .ok (.iaload, 1) := by decide +kernel
theorem dL_law_1157 : decode cL_law 1157 = .ok (.aload_n 0, 1) := by decide +kernel
theorem dL_law_1158 : decode cL_law 1158 = .ok (.iload_n 3, 1) := by decide +kernel
theorem dL_law_1159 : decode cL_law 1159 = .ok (.iconst 3, 1) := by decide +kernel
theorem dL_law_1160 : decode cL_law 1160 = .ok (.iadd, 1) := by decide +kernel
theorem dL_law_1161 : decode cL_law 1161 = .ok (.iaload, 1) := by decide +kernel
theorem dL_law_1162 : decode cL_law 1162 = .ok (.invokevirtual 118, 3) := by decide +kernel
theorem dL_law_1165 : decode cL_law 1165 = .ok (.pop, 1) := by decide +kernel
theorem dL_law_1166 : decode cL_law 1166 = .ok (.aload_n 2, 1) := by decide +kernel
theorem dL_law_1167 : decode cL_law 1167 = .ok (.aload_n 0, 1) := by decide +kernel
theorem dL_law_1168 : decode cL_law 1168 = .ok (.iload_n 3, 1) := by decide +kernel
theorem dL_law_1169 : decode cL_law 1169 = .ok (.iconst 1, 1) := by decide +kernel
theorem dL_law_1170 : decode cL_law 1170 = .ok (.iadd, 1) := by decide +kernel
theorem dL_law_1171 : decode cL_law 1171 = .ok (.iaload, 1) := by decide +kernel
theorem dL_law_1172 : decode cL_law 1172 = .ok (.aload_n 0, 1) := by decide +kernel
theorem dL_law_1173 : decode cL_law 1173 = .ok (.iload_n 3, 1) := by decide +kernel
theorem dL_law_1174 : decode cL_law 1174 = .ok (.iconst 2, 1) := by decide +kernel
theorem dL_law_1175 : decode cL_law 1175 = .ok (.iadd, 1) := by decide +kernel
theorem dL_law_1176 : decode cL_law 1176 = .ok (.iaload, 1) := by decide +kernel
theorem dL_law_1177 : decode cL_law 1177 = .ok (.aload_n 0, 1) := by decide +kernel
theorem dL_law_1178 : decode cL_law 1178 = .ok (.iload_n 3, 1) := by decide +kernel
theorem dL_law_1179 : decode cL_law 1179 = .ok (.iconst 3, 1) := by decide +kernel
theorem dL_law_1180 : decode cL_law 1180 = .ok (.iadd, 1) := by decide +kernel
theorem dL_law_1181 : decode cL_law 1181 = .ok (.iaload, 1) := by decide +kernel
theorem dL_law_1182 : decode cL_law 1182 = .ok (.invokevirtual 121, 3) := by decide +kernel
theorem dL_law_1185 : decode cL_law 1185 = .ok (.pop, 1) := by decide +kernel
theorem dL_law_1186 : decode cL_law 1186 = .ok (.goto 313, 3) := by decide +kernel
theorem dL_law_1189 : decode cL_law 1189 = .ok (.aload_n 1, 1) := by decide +kernel
theorem dL_law_1190 : decode cL_law 1190 = .ok (.aload_n 0, 1) := by decide +kernel
theorem dL_law_1191 : decode cL_law 1191 = .ok (.iload_n 3, 1) := by decide +kernel
theorem dL_law_1192 : decode cL_law 1192 = .ok (.iconst 1, 1) := by decide +kernel
theorem dL_law_1193 : decode cL_law 1193 = .ok (.iadd, 1) := by decide +kernel
theorem dL_law_1194 : decode cL_law 1194 = .ok (.iaload, 1) := by decide +kernel
theorem dL_law_1195 : decode cL_law 1195 = .ok (.aload_n 0, 1) := by decide +kernel
theorem dL_law_1196 : decode cL_law 1196 = .ok (.iload_n 3, 1) := by decide +kernel
theorem dL_law_1197 : decode cL_law 1197 = .ok (.iconst 2, 1) := by decide +kernel
theorem dL_law_1198 : decode cL_law 1198 = .ok (.iadd, 1) := by decide +kernel
theorem dL_law_1199 : decode cL_law 1199 = .ok (.iaload, 1) := by decide +kernel
theorem dL_law_1200 : decode cL_law 1200 = .ok (.invokevirtual 122, 3) := by decide +kernel
theorem dL_law_1203 : decode cL_law 1203 = .ok (.pop, 1) := by decide +kernel
theorem dL_law_1204 : decode cL_law 1204 = .ok (.aload_n 2, 1) := by decide +kernel
theorem dL_law_1205 : decode cL_law 1205 = .ok (.aload_n 0, 1) := by decide +kernel
theorem dL_law_1206 : decode cL_law 1206 = .ok (.iload_n 3, 1) := by decide +kernel
theorem dL_law_1207 : decode cL_law 1207 = .ok (.iconst 1, 1) := by decide +kernel
theorem dL_law_1208 : decode cL_law 1208 = .ok (.iadd, 1) := by decide +kernel
theorem dL_law_1209 : decode cL_law 1209 = .ok (.iaload, 1) := by decide +kernel
theorem dL_law_1210 : decode cL_law 1210 = .ok (.aload_n 0, 1) := by decide +kernel
theorem dL_law_1211 : decode cL_law 1211 = .ok (.iload_n 3, 1) := by decide +kernel
theorem dL_law_1212 : decode cL_law 1212 = .ok (.iconst 2, 1) := by decide +kernel
theorem dL_law_1213 : decode cL_law 1213 = .ok (.iadd, 1) := by decide +kernel
theorem dL_law_1214 : decode cL_law 1214 = .ok (.iaload, 1) := by decide +kernel
theorem dL_law_1215 : decode cL_law 1215 = .ok (.invokevirtual 125, 3) := by decide +kernel
theorem dL_law_1218 : decode cL_law 1218 = .ok (.pop, 1) := by decide +kernel
theorem dL_law_1219 : decode cL_law 1219 = .ok (.goto 280, 3) := by decide +kernel


set_option maxHeartbeats 4000000 in
set_option maxRecDepth 100000 in
theorem lc_24 {p : Program} {l : Launch} {e : Env} {s : State} {m : MethodId} {below : List Frame} {meth : Method} {c : Code} {b L : Nat} {xs : Nat → Int32} {A : Nat → Prop} {dC : Nat → ClassId} {dI : Nat → Nat → Nat} {tL tS tG h0 g0 : Nat} {pq : Nat → Nat} {cq cp : Nat → ClassId} (C0 : lw_At p s m meth c b L xs) (hL : L ≤ 3072) (hA : ∀ q : Nat, s.heap.size ≤ q → A q) (hAq : ∀ q, A q → s.heap.size ≤ q) (hZ : stO A tL tS tG s s.heap) (hKo : va_K (dC, dI) vwCl (oT cq) s) (hKm : va_K (dC, dI) vwCl (mT cp) s) {S : oS} {v : Nat → Int32} {fa : Nat → Nat → Int32} {H : Heap} {locs : List Loc} {i cells slots : Nat} (hi : i + 6 ≤ L) (hcl : cells ≤ 500000) (hsl : slots ≤ 7000000) (hJ : lwI S h0 v fa) (hH : lwH (dC, dI) A cq cp g0 pq S v fa H) (hS : va_S A s.heap H locs) {ls : Array Slot} (hl : lv_has ls 4 [(3, .int (nI i)), (2, .ref g0), (1, .ref h0), (0, .ref b)]) (K : (∀ (S1 : oS) (v1 : Nat → Int32) (fa1 : Nat → Nat → Int32) (H1 : Heap) (locs1 : List Loc) (ls1 : Array Slot), lwI S1 h0 v1 fa1 → lwH (dC, dI) A cq cp g0 pq S1 v1 fa1 H1 → va_S A s.heap H1 locs1 → lv_has ls1 4 [(3, .int (nI i)), (2, .ref g0), (1, .ref h0), (0, .ref b)] → W p l e room_1 s m #[Value.ref b] below meth c H1 locs1 (cells + 4) (slots + 134) (lw_Z below #[Value.ref b] s) (F0 m 1499 ls1 []))) : W p l e room_1 s m #[Value.ref b] below meth c H locs cells slots (lw_Z below #[Value.ref b] s) (F0 m 1146 ls []) := by
  obtain ⟨hx, hb, hr, hml, hown, hts, hX, hbl, hlocks, hgv⟩ := id C0
  have hts := fun w h => hts w (wsL_law_in w h)
  have hown : s.vm.findClass RL = some m.cls := hown
  have hbA : ¬ A b := fun h => Nat.not_le.mpr hbl (hAq b h)
  refine lv_aload_n hx hb dL_law_1146 rfl (lv_at hl 2 rfl) ?_
  refine lv_aload_n hx hb dL_law_1147 rfl (lv_at hl 3 rfl) ?_
  refine lv_iload_n hx hb dL_law_1148 rfl (lv_at hl 0 rfl) ?_
  refine lv_iconst (v := 1) hx hb dL_law_1149 (by decide +kernel) ?_
  refine lv_iadd hx hb dL_law_1150 ?_
  refine lv_topi (fun y_1 ey_1 => ?_)
  have hy_1 : y_1.toInt = (i : Int) + 1 := by rw [ey_1]; exact ad_i (nI_toInt (by omega)) (by decide +kernel) (by omega) (by omega)
  have ny_1 : y_1.toNatClampNeg = i + 1 := (show y_1.toInt.toNat = _ by omega)
  clear ey_1
  refine va_sld hx hb hX hbl hbA hS (vp_in_iff.mpr (by omega)) dL_law_1151 ?_
  refine lv_topi (fun z_2 ez_2 => ?_)
  obtain rfl : z_2 = xs (i + 1) := ez_2.trans (by rw [ny_1])
  clear ny_1 hy_1
  refine lv_aload_n hx hb dL_law_1152 rfl (lv_at hl 3 rfl) ?_
  refine lv_iload_n hx hb dL_law_1153 rfl (lv_at hl 0 rfl) ?_
  refine lv_iconst (v := 2) hx hb dL_law_1154 (by decide +kernel) ?_
  refine lv_iadd hx hb dL_law_1155 ?_
  refine lv_topi (fun y_3 ey_3 => ?_)
  have hy_3 : y_3.toInt = (i : Int) + 2 := by rw [ey_3]; exact ad_i (nI_toInt (by omega)) (by decide +kernel) (by omega) (by omega)
  have ny_3 : y_3.toNatClampNeg = i + 2 := (show y_3.toInt.toNat = _ by omega)
  clear ey_3
  refine va_sld hx hb hX hbl hbA hS (vp_in_iff.mpr (by omega)) dL_law_1156 ?_
  refine lv_topi (fun z_4 ez_4 => ?_)
  obtain rfl : z_4 = xs (i + 2) := ez_4.trans (by rw [ny_3])
  clear ny_3 hy_3
  refine lv_aload_n hx hb dL_law_1157 rfl (lv_at hl 3 rfl) ?_
  refine lv_iload_n hx hb dL_law_1158 rfl (lv_at hl 0 rfl) ?_
  refine lv_iconst (v := 3) hx hb dL_law_1159 (by decide +kernel) ?_
  refine lv_iadd hx hb dL_law_1160 ?_
  refine lv_topi (fun y_5 ey_5 => ?_)
  have hy_5 : y_5.toInt = (i : Int) + 3 := by rw [ey_5]; exact ad_i (nI_toInt (by omega)) (by decide +kernel) (by omega) (by omega)
  have ny_5 : y_5.toNatClampNeg = i + 3 := (show y_5.toInt.toNat = _ by omega)
  clear ey_5
  refine va_sld hx hb hX hbl hbA hS (vp_in_iff.mpr (by omega)) dL_law_1161 ?_
  refine lv_topi (fun z_6 ez_6 => ?_)
  obtain rfl : z_6 = xs (i + 3) := ez_6.trans (by rw [ny_5])
  clear ny_5 hy_5
  obtain ⟨hI_o, to, gV, gA, hlw⟩ := id hJ
  obtain ⟨hPo, hDo, hPm, hDm, hdis⟩ := id hH
  have hFc := o_free hDo hS hA
  obtain ⟨q0, hq0⟩ := og (cq := cq) to.1 (oE_10 to.2)
  refine va_calli (va_runV (As := [.int (xs (i + 1)), .int (xs (i + 2)), .int (xs (i + 3))]) (rest := []) ⟨hx, hb, hml, hown, hts⟩ (c_X10_owed l dC dI H.size cq S hI_o h0 to (xs (i + 1)) (xs (i + 2)) (xs (i + 3))) (cwV 3 hts gL_law_X10_owed rfl rfl rfl (by decide +kernel) ⟨(Nat.le_of_ble_eq_true rfl), (Nat.le_of_ble_eq_true rfl)⟩) (pr_V (r := (RX10, TX10, 16)) hPo hKo hDo q0 10 rfl hq0) rfl rfl hl.1 rfl (lv_room (Nat.le_of_ble_eq_true rfl)) dL_law_1162 ⟨(show cells + 0 ≤ 600000 by omega), (show slots + 0 ≤ 7302250 by omega)⟩) hS (fun q _ h => hFc q h) hFc (fun r_8 u t H locs ht hvm w_7 hB hz1 hk1 hS => ?_)
  obtain ⟨S9, rfl⟩ : ∃ z, z = u := ⟨_, rfl⟩
  obtain ⟨hP1, hK1, hD1⟩ := hB
  rw [ht] at hP1
  have hH := lwH_o hH hFc hk1 hP1 hD1
  clear hP1 hK1 hD1
  have hJ := lwI_o hJ w_7.1 w_7.2 (by decide +kernel)
  clear hk1 hz1 hvm ht hFc
  refine lv_pop hx hb dL_law_1165 rfl ?_
  refine lv_aload_n hx hb dL_law_1166 rfl (lv_at hl 1 rfl) ?_
  refine lv_aload_n hx hb dL_law_1167 rfl (lv_at hl 3 rfl) ?_
  refine lv_iload_n hx hb dL_law_1168 rfl (lv_at hl 0 rfl) ?_
  refine lv_iconst (v := 1) hx hb dL_law_1169 (by decide +kernel) ?_
  refine lv_iadd hx hb dL_law_1170 ?_
  refine lv_topi (fun y_9 ey_9 => ?_)
  have hy_9 : y_9.toInt = (i : Int) + 1 := by rw [ey_9]; exact ad_i (nI_toInt (by omega)) (by decide +kernel) (by omega) (by omega)
  have ny_9 : y_9.toNatClampNeg = i + 1 := (show y_9.toInt.toNat = _ by omega)
  clear ey_9
  refine va_sld hx hb hX hbl hbA hS (vp_in_iff.mpr (by omega)) dL_law_1171 ?_
  refine lv_topi (fun z_10 ez_10 => ?_)
  obtain rfl : z_10 = xs (i + 1) := ez_10.trans (by rw [ny_9])
  clear ny_9 hy_9
  refine lv_aload_n hx hb dL_law_1172 rfl (lv_at hl 3 rfl) ?_
  refine lv_iload_n hx hb dL_law_1173 rfl (lv_at hl 0 rfl) ?_
  refine lv_iconst (v := 2) hx hb dL_law_1174 (by decide +kernel) ?_
  refine lv_iadd hx hb dL_law_1175 ?_
  refine lv_topi (fun y_11 ey_11 => ?_)
  have hy_11 : y_11.toInt = (i : Int) + 2 := by rw [ey_11]; exact ad_i (nI_toInt (by omega)) (by decide +kernel) (by omega) (by omega)
  have ny_11 : y_11.toNatClampNeg = i + 2 := (show y_11.toInt.toNat = _ by omega)
  clear ey_11
  refine va_sld hx hb hX hbl hbA hS (vp_in_iff.mpr (by omega)) dL_law_1176 ?_
  refine lv_topi (fun z_12 ez_12 => ?_)
  obtain rfl : z_12 = xs (i + 2) := ez_12.trans (by rw [ny_11])
  clear ny_11 hy_11
  refine lv_aload_n hx hb dL_law_1177 rfl (lv_at hl 3 rfl) ?_
  refine lv_iload_n hx hb dL_law_1178 rfl (lv_at hl 0 rfl) ?_
  refine lv_iconst (v := 3) hx hb dL_law_1179 (by decide +kernel) ?_
  refine lv_iadd hx hb dL_law_1180 ?_
  refine lv_topi (fun y_13 ey_13 => ?_)
  have hy_13 : y_13.toInt = (i : Int) + 3 := by rw [ey_13]; exact ad_i (nI_toInt (by omega)) (by decide +kernel) (by omega) (by omega)
  have ny_13 : y_13.toNatClampNeg = i + 3 := (show y_13.toInt.toNat = _ by omega)
  clear ey_13
  refine va_sld hx hb hX hbl hbA hS (vp_in_iff.mpr (by omega)) dL_law_1181 ?_
  refine lv_topi (fun z_14 ez_14 => ?_)
  obtain rfl : z_14 = xs (i + 3) := ez_14.trans (by rw [ny_13])
  clear ny_13 hy_13
  obtain ⟨hI_o, to, gV, gA, hlw⟩ := id hJ
  obtain ⟨hPo, hDo, hPm, hDm, hdis⟩ := id hH
  have hFc := o_free hDm hS hA
  refine va_calli (va_runV (As := [.int (xs (i + 1)), .int (xs (i + 2)), .int (xs (i + 3))]) (rest := []) ⟨hx, hb, hml, hown, hts⟩ (c_X11_owed l dC dI H.size g0 pq cp v fa gV gA (xs (i + 1)) (xs (i + 2)) (xs (i + 3))) (cwV 3 hts gL_law_X11_owed rfl rfl rfl (by decide +kernel) ⟨(Nat.le_of_ble_eq_true rfl), (Nat.le_of_ble_eq_true rfl)⟩) (pr_V (r := (RX11, TX11, 63)) hPm hKm hDm 0 11 rfl rfl) rfl rfl hl.1 rfl (lv_room (Nat.le_of_ble_eq_true rfl)) dL_law_1182 ⟨(show cells + 0 ≤ 600000 by omega), (show slots + 0 ≤ 7302250 by omega)⟩) hS (fun q _ h => hFc q h) hFc (fun r_16 u t H locs ht hvm w_15 hB hz1 hk1 hS => ?_)
  obtain ⟨v1, fa1⟩ := u
  obtain ⟨hP1, hK1, hD1⟩ := hB
  rw [ht] at hP1
  dsimp only at hP1 hD1
  have hH := lwH_m hH hFc hk1 hP1 hD1
  clear hP1 hK1 hD1
  obtain ⟨hV1, hA1, hn1⟩ := w_15
  dsimp only at hV1 hA1 hn1
  have hJ := lwI_m hJ hV1 hA1 hn1 (by decide +kernel)
  clear hk1 hz1 hvm ht hFc
  refine lv_pop hx hb dL_law_1185 rfl ?_
  refine lv_goto (tgt := 1499) hx hb dL_law_1186 (by decide +kernel) ?_
  refine W.widen (k := cells + 4) (n := slots + 134) (by omega) (by omega) ?_
  exact K _ _ _ _ _ _ hJ hH hS hl
set_option maxHeartbeats 4000000 in
set_option maxRecDepth 100000 in
theorem lc_25 {p : Program} {l : Launch} {e : Env} {s : State} {m : MethodId} {below : List Frame} {meth : Method} {c : Code} {b L : Nat} {xs : Nat → Int32} {A : Nat → Prop} {dC : Nat → ClassId} {dI : Nat → Nat → Nat} {tL tS tG h0 g0 : Nat} {pq : Nat → Nat} {cq cp : Nat → ClassId} (C0 : lw_At p s m meth c b L xs) (hL : L ≤ 3072) (hA : ∀ q : Nat, s.heap.size ≤ q → A q) (hAq : ∀ q, A q → s.heap.size ≤ q) (hZ : stO A tL tS tG s s.heap) (hKo : va_K (dC, dI) vwCl (oT cq) s) (hKm : va_K (dC, dI) vwCl (mT cp) s) {S : oS} {v : Nat → Int32} {fa : Nat → Nat → Int32} {H : Heap} {locs : List Loc} {i cells slots : Nat} (hi : i + 6 ≤ L) (hcl : cells ≤ 500000) (hsl : slots ≤ 7000000) (hJ : lwI S h0 v fa) (hH : lwH (dC, dI) A cq cp g0 pq S v fa H) (hS : va_S A s.heap H locs) {ls : Array Slot} (hl : lv_has ls 4 [(3, .int (nI i)), (2, .ref g0), (1, .ref h0), (0, .ref b)]) (K : (∀ (S1 : oS) (v1 : Nat → Int32) (fa1 : Nat → Nat → Int32) (H1 : Heap) (locs1 : List Loc) (ls1 : Array Slot), lwI S1 h0 v1 fa1 → lwH (dC, dI) A cq cp g0 pq S1 v1 fa1 H1 → va_S A s.heap H1 locs1 → lv_has ls1 4 [(3, .int (nI i)), (2, .ref g0), (1, .ref h0), (0, .ref b)] → W p l e room_1 s m #[Value.ref b] below meth c H1 locs1 (cells + 4) (slots + 134) (lw_Z below #[Value.ref b] s) (F0 m 1499 ls1 []))) : W p l e room_1 s m #[Value.ref b] below meth c H locs cells slots (lw_Z below #[Value.ref b] s) (F0 m 1189 ls []) := by
  obtain ⟨hx, hb, hr, hml, hown, hts, hX, hbl, hlocks, hgv⟩ := id C0
  have hts := fun w h => hts w (wsL_law_in w h)
  have hown : s.vm.findClass RL = some m.cls := hown
  have hbA : ¬ A b := fun h => Nat.not_le.mpr hbl (hAq b h)
  refine lv_aload_n hx hb dL_law_1189 rfl (lv_at hl 2 rfl) ?_
  refine lv_aload_n hx hb dL_law_1190 rfl (lv_at hl 3 rfl) ?_
  refine lv_iload_n hx hb dL_law_1191 rfl (lv_at hl 0 rfl) ?_
  refine lv_iconst (v := 1) hx hb dL_law_1192 (by decide +kernel) ?_
  refine lv_iadd hx hb dL_law_1193 ?_
  refine lv_topi (fun y_1 ey_1 => ?_)
  have hy_1 : y_1.toInt = (i : Int) + 1 := by rw [ey_1]; exact ad_i (nI_toInt (by omega)) (by decide +kernel) (by omega) (by omega)
  have ny_1 : y_1.toNatClampNeg = i + 1 := (show y_1.toInt.toNat = _ by omega)
  clear ey_1
  refine va_sld hx hb hX hbl hbA hS (vp_in_iff.mpr (by omega)) dL_law_1194 ?_
  refine lv_topi (fun z_2 ez_2 => ?_)
  obtain rfl : z_2 = xs (i + 1) := ez_2.trans (by rw [ny_1])
  clear ny_1 hy_1
  refine lv_aload_n hx hb dL_law_1195 rfl (lv_at hl 3 rfl) ?_
  refine lv_iload_n hx hb dL_law_1196 rfl (lv_at hl 0 rfl) ?_
  refine lv_iconst (v := 2) hx hb dL_law_1197 (by decide +kernel) ?_
  refine lv_iadd hx hb dL_law_1198 ?_
  refine lv_topi (fun y_3 ey_3 => ?_)
  have hy_3 : y_3.toInt = (i : Int) + 2 := by rw [ey_3]; exact ad_i (nI_toInt (by omega)) (by decide +kernel) (by omega) (by omega)
  have ny_3 : y_3.toNatClampNeg = i + 2 := (show y_3.toInt.toNat = _ by omega)
  clear ey_3
  refine va_sld hx hb hX hbl hbA hS (vp_in_iff.mpr (by omega)) dL_law_1199 ?_
  refine lv_topi (fun z_4 ez_4 => ?_)
  obtain rfl : z_4 = xs (i + 2) := ez_4.trans (by rw [ny_3])
  clear ny_3 hy_3
  obtain ⟨hI_o, to, gV, gA, hlw⟩ := id hJ
  obtain ⟨hPo, hDo, hPm, hDm, hdis⟩ := id hH
  have hFc := o_free hDo hS hA
  obtain ⟨q0, hq0⟩ := og (cq := cq) to.1 (oE_10 to.2)
  refine va_calli (va_runV (As := [.int (xs (i + 1)), .int (xs (i + 2))]) (rest := []) ⟨hx, hb, hml, hown, hts⟩ (c_X10_agreementOf l dC dI H.size cq S hI_o h0 to (xs (i + 1)) (xs (i + 2))) (cwV 2 hts gL_law_X10_agreementOf rfl rfl rfl (by decide +kernel) ⟨(Nat.le_of_ble_eq_true rfl), (Nat.le_of_ble_eq_true rfl)⟩) (pr_V (r := (RX10, TX10, 16)) hPo hKo hDo q0 10 rfl hq0) rfl rfl hl.1 rfl (lv_room (Nat.le_of_ble_eq_true rfl)) dL_law_1200 ⟨(show cells + 0 ≤ 600000 by omega), (show slots + 0 ≤ 7302250 by omega)⟩) hS (fun q _ h => hFc q h) hFc (fun r_6 u t H locs ht hvm w_5 hB hz1 hk1 hS => ?_)
  obtain ⟨S9, rfl⟩ : ∃ z, z = u := ⟨_, rfl⟩
  obtain ⟨hP1, hK1, hD1⟩ := hB
  rw [ht] at hP1
  have hH := lwH_o hH hFc hk1 hP1 hD1
  clear hP1 hK1 hD1
  have hJ := lwI_o hJ w_5.1 w_5.2 (by decide +kernel)
  clear hk1 hz1 hvm ht hFc
  refine lv_pop hx hb dL_law_1203 rfl ?_
  refine lv_aload_n hx hb dL_law_1204 rfl (lv_at hl 1 rfl) ?_
  refine lv_aload_n hx hb dL_law_1205 rfl (lv_at hl 3 rfl) ?_
  refine lv_iload_n hx hb dL_law_1206 rfl (lv_at hl 0 rfl) ?_
  refine lv_iconst (v := 1) hx hb dL_law_1207 (by decide +kernel) ?_
  refine lv_iadd hx hb dL_law_1208 ?_
  refine lv_topi (fun y_7 ey_7 => ?_)
  have hy_7 : y_7.toInt = (i : Int) + 1 := by rw [ey_7]; exact ad_i (nI_toInt (by omega)) (by decide +kernel) (by omega) (by omega)
  have ny_7 : y_7.toNatClampNeg = i + 1 := (show y_7.toInt.toNat = _ by omega)
  clear ey_7
  refine va_sld hx hb hX hbl hbA hS (vp_in_iff.mpr (by omega)) dL_law_1209 ?_
  refine lv_topi (fun z_8 ez_8 => ?_)
  obtain rfl : z_8 = xs (i + 1) := ez_8.trans (by rw [ny_7])
  clear ny_7 hy_7
  refine lv_aload_n hx hb dL_law_1210 rfl (lv_at hl 3 rfl) ?_
  refine lv_iload_n hx hb dL_law_1211 rfl (lv_at hl 0 rfl) ?_
  refine lv_iconst (v := 2) hx hb dL_law_1212 (by decide +kernel) ?_
  refine lv_iadd hx hb dL_law_1213 ?_
  refine lv_topi (fun y_9 ey_9 => ?_)
  have hy_9 : y_9.toInt = (i : Int) + 2 := by rw [ey_9]; exact ad_i (nI_toInt (by omega)) (by decide +kernel) (by omega) (by omega)
  have ny_9 : y_9.toNatClampNeg = i + 2 := (show y_9.toInt.toNat = _ by omega)
  clear ey_9
  refine va_sld hx hb hX hbl hbA hS (vp_in_iff.mpr (by omega)) dL_law_1214 ?_
  refine lv_topi (fun z_10 ez_10 => ?_)
  obtain rfl : z_10 = xs (i + 2) := ez_10.trans (by rw [ny_9])
  clear ny_9 hy_9
  obtain ⟨hI_o, to, gV, gA, hlw⟩ := id hJ
  obtain ⟨hPo, hDo, hPm, hDm, hdis⟩ := id hH
  have hFc := o_free hDm hS hA
  refine va_calli (va_runV (As := [.int (xs (i + 1)), .int (xs (i + 2))]) (rest := []) ⟨hx, hb, hml, hown, hts⟩ (c_X11_agreementOf l dC dI H.size g0 pq cp v fa gV gA (xs (i + 1)) (xs (i + 2))) (cwV 2 hts gL_law_X11_agreementOf rfl rfl rfl (by decide +kernel) ⟨(Nat.le_of_ble_eq_true rfl), (Nat.le_of_ble_eq_true rfl)⟩) (pr_V (r := (RX11, TX11, 63)) hPm hKm hDm 0 11 rfl rfl) rfl rfl hl.1 rfl (lv_room (Nat.le_of_ble_eq_true rfl)) dL_law_1215 ⟨(show cells + 0 ≤ 600000 by omega), (show slots + 0 ≤ 7302250 by omega)⟩) hS (fun q _ h => hFc q h) hFc (fun r_12 u t H locs ht hvm w_11 hB hz1 hk1 hS => ?_)
  obtain ⟨v1, fa1⟩ := u
  obtain ⟨hP1, hK1, hD1⟩ := hB
  rw [ht] at hP1
  dsimp only at hP1 hD1
  have hH := lwH_m hH hFc hk1 hP1 hD1
  clear hP1 hK1 hD1
  obtain ⟨hV1, hA1, hn1⟩ := w_11
  dsimp only at hV1 hA1 hn1
  have hJ := lwI_m hJ hV1 hA1 hn1 (by decide +kernel)
  clear hk1 hz1 hvm ht hFc
  refine lv_pop hx hb dL_law_1218 rfl ?_
  refine lv_goto (tgt := 1499) hx hb dL_law_1219 (by decide +kernel) ?_
  refine W.widen (k := cells + 4) (n := slots + 134) (by omega) (by omega) ?_
  exact K _ _ _ _ _ _ hJ hH hS hl
