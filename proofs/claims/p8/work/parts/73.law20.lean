theorem gw_X10_allot : wsX10_allot.all goodWord = true := by decide +kernel
theorem gw_X10_fine : wsX10_fine.all goodWord = true := by decide +kernel
theorem gw_X11_allot : wsX11_allot.all goodWord = true := by decide +kernel
theorem gw_X11_fine : wsX11_fine.all goodWord = true := by decide +kernel
theorem il_L_law_33 : ∀ w ∈ wsL_law_r33, w ∈ wsL_law := fun w h => (List.mem_append_left _ (List.mem_append_left _ (List.mem_append_left _ (List.mem_append_left _ (List.mem_append_left _ (List.mem_append_left _ (List.mem_append_left _ (List.mem_append_left _ (List.mem_append_left _ (List.mem_append_left _ (List.mem_append_left _ (List.mem_append_left _ (List.mem_append_left _ (List.mem_append_right _ (List.mem_append_right _ (List.mem_append_right _ (List.mem_append_right _ (List.mem_append_right _ (List.mem_append_right _ (List.mem_append_right _ (List.mem_append_right _ (List.mem_append_right _ (List.mem_append_right _ (List.mem_append_right _ (List.mem_append_right _ (List.mem_append_right _ (List.mem_append_right _ (List.mem_append_right _ (List.mem_append_right _ (List.mem_append_right _ (List.mem_append_right _ (List.mem_append_right _ (List.mem_append_right _ (List.mem_append_right _ (List.mem_append_right _ (List.mem_append_right _ (List.mem_append_right _ (List.mem_append_right _ (List.mem_append_right _ (List.mem_append_right _ (List.mem_append_right _ (List.mem_append_right _ (List.mem_append_right _ (List.mem_append_right _ (List.mem_append_right _ (List.mem_append_left _ h))))))))))))))))))))))))))))))))))))))))))))))
theorem il_L_law_34 : ∀ w ∈ wsL_law_r34, w ∈ wsL_law := fun w h => (List.mem_append_left _ (List.mem_append_left _ (List.mem_append_left _ (List.mem_append_left _ (List.mem_append_left _ (List.mem_append_left _ (List.mem_append_left _ (List.mem_append_left _ (List.mem_append_left _ (List.mem_append_left _ (List.mem_append_left _ (List.mem_append_left _ (List.mem_append_left _ (List.mem_append_right _ (List.mem_append_right _ (List.mem_append_right _ (List.mem_append_right _ (List.mem_append_right _ (List.mem_append_right _ (List.mem_append_right _ (List.mem_append_right _ (List.mem_append_right _ (List.mem_append_right _ (List.mem_append_right _ (List.mem_append_right _ (List.mem_append_right _ (List.mem_append_right _ (List.mem_append_right _ (List.mem_append_right _ (List.mem_append_right _ (List.mem_append_right _ (List.mem_append_right _ (List.mem_append_right _ (List.mem_append_right _ (List.mem_append_right _ (List.mem_append_right _ (List.mem_append_right _ (List.mem_append_right _ (List.mem_append_right _ (List.mem_append_right _ (List.mem_append_right _ (List.mem_append_right _ (List.mem_append_right _ (List.mem_append_right _ (List.mem_append_right _ (List.mem_append_right _ (List.mem_append_left _ h)))))))))))))))))))))))))))))))))))))))))))))))
theorem il_L_law_58 : ∀ w ∈ wsX20, w ∈ wsL_law := fun w h => (List.mem_append_left _ (List.mem_append_right _ h))
set_option maxRecDepth 100000 in
theorem ggL_law_X10_allot : GoodIn wsL_law wsX10_allot := goodIn_sub (mmC (mmI il_L_law_32 16 rfl) (mmA (mmA (mmA (mmA (mmA (mmA (mmA (mmA (mmC (mmI il_L_law_32 17 rfl) (mmC (mmI il_L_law_7 4 rfl) (mmC (mmI il_L_law_23 21 rfl) (mmC (mmI il_L_law_32 18 rfl) (mmC (mmI il_L_law_16 1 rfl) (mmC (mmI il_L_law_16 2 rfl) (mmC (mmI il_L_law_16 3 rfl) (mmC (mmI il_L_law_1 2 rfl) (mmC (mmI il_L_law_16 4 rfl) (mmC (mmI il_L_law_12 3 rfl) (mmC (mmI il_L_law_1 18 rfl) (mmC (mmI il_L_law_7 5 rfl) (mmC (mmI il_L_law_7 6 rfl) (mmC (mmI il_L_law_7 7 rfl) (mmC (mmI il_L_law_7 8 rfl) (mmC (mmI il_L_law_2 15 rfl) (mmC (mmI il_L_law_12 10 rfl) (mmC (mmI il_L_law_12 11 rfl) (mmC (mmI il_L_law_12 12 rfl) (mmC (mmI il_L_law_12 13 rfl) (mmC (mmI il_L_law_12 14 rfl) (mmC (mmI il_L_law_12 15 rfl) (mmC (mmI il_L_law_12 16 rfl) (mmC (mmI il_L_law_12 17 rfl) mmN)))))))))))))))))))))))) (mmA (mmC (mmI il_L_law_12 18 rfl) (mmC (mmI il_L_law_12 19 rfl) (mmC (mmI il_L_law_32 19 rfl) (mmC (mmI il_L_law_32 20 rfl) (mmC (mmI il_L_law_32 21 rfl) (mmC (mmI il_L_law_32 22 rfl) (mmC (mmI il_L_law_1 22 rfl) (mmC (mmI il_L_law_2 13 rfl) (mmC (mmI il_L_law_23 22 rfl) (mmC (mmI il_L_law_24 12 rfl) (mmC (mmI il_L_law_12 4 rfl) (mmC (mmI il_L_law_25 0 rfl) (mmC (mmI il_L_law_25 1 rfl) (mmC (mmI il_L_law_25 2 rfl) (mmC (mmI il_L_law_1 21 rfl) (mmC (mmI il_L_law_25 3 rfl) (mmC (mmI il_L_law_2 22 rfl) (mmC (mmI il_L_law_21 17 rfl) (mmC (mmI il_L_law_2 21 rfl) (mmC (mmI il_L_law_25 4 rfl) (mmC (mmI il_L_law_25 5 rfl) (mmC (mmI il_L_law_24 20 rfl) (mmC (mmI il_L_law_24 21 rfl) (mmC (mmI il_L_law_24 22 rfl) mmN)))))))))))))))))))))))) (mmA (mmC (mmI il_L_law_8 22 rfl) (mmC (mmI il_L_law_24 23 rfl) (mmC (mmI il_L_law_9 7 rfl) (mmC (mmI il_L_law_32 23 rfl) (mmC (mmI il_L_law_33 0 rfl) (mmC (mmI il_L_law_33 1 rfl) (mmC (mmI il_L_law_3 0 rfl) (mmC (mmI il_L_law_33 2 rfl) (mmC (mmI il_L_law_3 7 rfl) (mmC (mmI il_L_law_33 3 rfl) (mmC (mmI il_L_law_30 15 rfl) (mmC (mmI il_L_law_30 16 rfl) (mmC (mmI il_L_law_30 17 rfl) (mmC (mmI il_L_law_25 16 rfl) (mmC (mmI il_L_law_30 18 rfl) (mmC (mmI il_L_law_10 2 rfl) (mmC (mmI il_L_law_10 3 rfl) (mmC (mmI il_L_law_10 4 rfl) (mmC (mmI il_L_law_30 13 rfl) (mmC (mmI il_L_law_27 7 rfl) (mmC (mmI il_L_law_27 8 rfl) (mmC (mmI il_L_law_27 9 rfl) (mmC (mmI il_L_law_27 10 rfl) (mmC (mmI il_L_law_27 11 rfl) mmN)))))))))))))))))))))))) (mmA (mmC (mmI il_L_law_27 12 rfl) (mmC (mmI il_L_law_27 13 rfl) (mmC (mmI il_L_law_27 14 rfl) (mmC (mmI il_L_law_10 20 rfl) (mmC (mmI il_L_law_27 15 rfl) (mmC (mmI il_L_law_11 11 rfl) (mmC (mmI il_L_law_11 10 rfl) (mmC (mmI il_L_law_27 16 rfl) (mmC (mmI il_L_law_27 17 rfl) (mmC (mmI il_L_law_27 18 rfl) (mmC (mmI il_L_law_27 19 rfl) (mmC (mmI il_L_law_27 20 rfl) (mmC (mmI il_L_law_27 21 rfl) (mmC (mmI il_L_law_27 22 rfl) (mmC (mmI il_L_law_27 23 rfl) (mmC (mmI il_L_law_28 0 rfl) (mmC (mmI il_L_law_28 1 rfl) (mmC (mmI il_L_law_28 2 rfl) (mmC (mmI il_L_law_28 3 rfl) (mmC (mmI il_L_law_28 4 rfl) (mmC (mmI il_L_law_28 5 rfl) (mmC (mmI il_L_law_28 6 rfl) (mmC (mmI il_L_law_28 7 rfl) (mmC (mmI il_L_law_11 9 rfl) mmN)))))))))))))))))))))))) (mmA (mmC (mmI il_L_law_11 8 rfl) (mmC (mmI il_L_law_28 8 rfl) (mmC (mmI il_L_law_28 9 rfl) (mmC (mmI il_L_law_28 10 rfl) (mmC (mmI il_L_law_28 11 rfl) (mmC (mmI il_L_law_28 12 rfl) (mmC (mmI il_L_law_28 13 rfl) (mmC (mmI il_L_law_28 14 rfl) (mmC (mmI il_L_law_28 15 rfl) (mmC (mmI il_L_law_28 16 rfl) (mmC (mmI il_L_law_30 19 rfl) (mmC (mmI il_L_law_30 20 rfl) (mmC (mmI il_L_law_30 21 rfl) (mmC (mmI il_L_law_30 22 rfl) (mmC (mmI il_L_law_30 23 rfl) (mmC (mmI il_L_law_31 0 rfl) (mmC (mmI il_L_law_31 1 rfl) (mmC (mmI il_L_law_31 2 rfl) (mmC (mmI il_L_law_31 3 rfl) (mmC (mmI il_L_law_31 4 rfl) (mmC (mmI il_L_law_31 5 rfl) (mmC (mmI il_L_law_11 7 rfl) (mmC (mmI il_L_law_31 6 rfl) (mmC (mmI il_L_law_31 7 rfl) mmN)))))))))))))))))))))))) (mmA (mmC (mmI il_L_law_31 8 rfl) (mmC (mmI il_L_law_31 9 rfl) (mmC (mmI il_L_law_31 10 rfl) (mmC (mmI il_L_law_33 4 rfl) (mmC (mmI il_L_law_33 5 rfl) (mmC (mmI il_L_law_33 6 rfl) (mmC (mmI il_L_law_33 7 rfl) (mmC (mmI il_L_law_27 6 rfl) (mmC (mmI il_L_law_33 8 rfl) (mmC (mmI il_L_law_33 9 rfl) (mmC (mmI il_L_law_33 10 rfl) (mmC (mmI il_L_law_33 11 rfl) (mmC (mmI il_L_law_33 12 rfl) (mmC (mmI il_L_law_25 6 rfl) (mmC (mmI il_L_law_3 11 rfl) (mmC (mmI il_L_law_3 12 rfl) (mmC (mmI il_L_law_3 13 rfl) (mmC (mmI il_L_law_3 8 rfl) (mmC (mmI il_L_law_3 14 rfl) (mmC (mmI il_L_law_3 15 rfl) (mmC (mmI il_L_law_3 16 rfl) (mmC (mmI il_L_law_3 17 rfl) (mmC (mmI il_L_law_3 18 rfl) (mmC (mmI il_L_law_3 19 rfl) mmN)))))))))))))))))))))))) (mmC (mmI il_L_law_3 20 rfl) (mmC (mmI il_L_law_3 21 rfl) (mmC (mmI il_L_law_3 22 rfl) (mmC (mmI il_L_law_3 23 rfl) mmN)))))))))) il_L_law_56) il_L_law_47) il_L_law_55) il_L_law_49) il_L_law_53) il_L_law_54) il_L_law_57)) gw_X10_allot
theorem gL_law_X10_allot : GoodIn wsL_law (wsV RL 97 RX10 yX10_allot wsX10_allot) := goodIn_app (goodIn_sub (mmC (mmI il_L_law_32 13 rfl) (mmC (mmI il_L_law_32 14 rfl) (mmC (mmI il_L_law_32 15 rfl) (mmC (mmI il_L_law_1 2 rfl) mmN)))) (by decide +kernel)) ggL_law_X10_allot
set_option maxRecDepth 100000 in
theorem ggL_law_X11_allot : GoodIn wsL_law wsX11_allot := goodIn_sub (mmC (mmI il_L_law_33 16 rfl) (mmA (mmA (mmC (mmI il_L_law_6 5 rfl) (mmC (mmI il_L_law_7 13 rfl) (mmC (mmI il_L_law_5 22 rfl) (mmC (mmI il_L_law_33 17 rfl) (mmC (mmI il_L_law_16 19 rfl) (mmC (mmI il_L_law_16 20 rfl) (mmC (mmI il_L_law_16 21 rfl) (mmC (mmI il_L_law_1 5 rfl) (mmC (mmI il_L_law_16 22 rfl) (mmC (mmI il_L_law_13 0 rfl) (mmC (mmI il_L_law_8 12 rfl) (mmC (mmI il_L_law_8 13 rfl) (mmC (mmI il_L_law_8 14 rfl) (mmC (mmI il_L_law_7 14 rfl) (mmC (mmI il_L_law_7 15 rfl) (mmC (mmI il_L_law_7 16 rfl) (mmC (mmI il_L_law_7 17 rfl) (mmC (mmI il_L_law_5 0 rfl) (mmC (mmI il_L_law_13 10 rfl) (mmC (mmI il_L_law_13 11 rfl) (mmC (mmI il_L_law_13 12 rfl) (mmC (mmI il_L_law_13 13 rfl) (mmC (mmI il_L_law_6 2 rfl) (mmC (mmI il_L_law_5 21 rfl) mmN)))))))))))))))))))))))) (mmA (mmC (mmI il_L_law_13 5 rfl) (mmC (mmI il_L_law_13 6 rfl) (mmC (mmI il_L_law_13 7 rfl) (mmC (mmI il_L_law_13 8 rfl) (mmC (mmI il_L_law_13 9 rfl) (mmC (mmI il_L_law_5 10 rfl) (mmC (mmI il_L_law_5 11 rfl) (mmC (mmI il_L_law_33 18 rfl) (mmC (mmI il_L_law_33 19 rfl) (mmC (mmI il_L_law_33 20 rfl) (mmC (mmI il_L_law_33 21 rfl) (mmC (mmI il_L_law_6 1 rfl) (mmC (mmI il_L_law_6 16 rfl) (mmC (mmI il_L_law_5 23 rfl) (mmC (mmI il_L_law_5 4 rfl) (mmC (mmI il_L_law_5 20 rfl) (mmC (mmI il_L_law_29 1 rfl) (mmC (mmI il_L_law_29 2 rfl) (mmC (mmI il_L_law_29 3 rfl) (mmC (mmI il_L_law_29 4 rfl) (mmC (mmI il_L_law_29 5 rfl) (mmC (mmI il_L_law_29 6 rfl) (mmC (mmI il_L_law_29 7 rfl) (mmC (mmI il_L_law_29 8 rfl) mmN)))))))))))))))))))))))) (mmA (mmC (mmI il_L_law_5 13 rfl) (mmC (mmI il_L_law_5 12 rfl) (mmC (mmI il_L_law_29 9 rfl) (mmC (mmI il_L_law_29 10 rfl) (mmC (mmI il_L_law_29 11 rfl) (mmC (mmI il_L_law_29 12 rfl) (mmC (mmI il_L_law_29 13 rfl) (mmC (mmI il_L_law_29 14 rfl) (mmC (mmI il_L_law_29 15 rfl) (mmC (mmI il_L_law_29 16 rfl) (mmC (mmI il_L_law_29 17 rfl) (mmC (mmI il_L_law_29 18 rfl) (mmC (mmI il_L_law_29 19 rfl) (mmC (mmI il_L_law_29 20 rfl) (mmC (mmI il_L_law_29 21 rfl) (mmC (mmI il_L_law_29 22 rfl) (mmC (mmI il_L_law_29 23 rfl) (mmC (mmI il_L_law_30 0 rfl) (mmC (mmI il_L_law_26 2 rfl) (mmC (mmI il_L_law_26 3 rfl) (mmC (mmI il_L_law_26 4 rfl) (mmC (mmI il_L_law_26 5 rfl) (mmC (mmI il_L_law_30 1 rfl) (mmC (mmI il_L_law_30 2 rfl) mmN)))))))))))))))))))))))) (mmA (mmC (mmI il_L_law_30 3 rfl) (mmC (mmI il_L_law_30 4 rfl) (mmC (mmI il_L_law_26 6 rfl) (mmC (mmI il_L_law_26 7 rfl) (mmC (mmI il_L_law_26 8 rfl) (mmC (mmI il_L_law_26 9 rfl) (mmC (mmI il_L_law_5 16 rfl) (mmC (mmI il_L_law_26 10 rfl) (mmC (mmI il_L_law_26 11 rfl) (mmC (mmI il_L_law_26 12 rfl) (mmC (mmI il_L_law_26 13 rfl) (mmC (mmI il_L_law_21 22 rfl) (mmC (mmI il_L_law_5 17 rfl) (mmC (mmI il_L_law_5 18 rfl) (mmC (mmI il_L_law_22 1 rfl) (mmC (mmI il_L_law_22 2 rfl) (mmC (mmI il_L_law_22 3 rfl) (mmC (mmI il_L_law_22 4 rfl) (mmC (mmI il_L_law_22 5 rfl) (mmC (mmI il_L_law_22 6 rfl) (mmC (mmI il_L_law_22 0 rfl) (mmC (mmI il_L_law_22 7 rfl) (mmC (mmI il_L_law_21 23 rfl) (mmC (mmI il_L_law_22 8 rfl) mmN)))))))))))))))))))))))) (mmA (mmC (mmI il_L_law_22 9 rfl) (mmC (mmI il_L_law_22 10 rfl) (mmC (mmI il_L_law_22 11 rfl) (mmC (mmI il_L_law_22 12 rfl) (mmC (mmI il_L_law_22 13 rfl) (mmC (mmI il_L_law_22 14 rfl) (mmC (mmI il_L_law_22 15 rfl) (mmC (mmI il_L_law_22 16 rfl) (mmC (mmI il_L_law_22 17 rfl) (mmC (mmI il_L_law_22 18 rfl) (mmC (mmI il_L_law_6 15 rfl) (mmC (mmI il_L_law_5 19 rfl) (mmC (mmI il_L_law_22 19 rfl) (mmC (mmI il_L_law_22 20 rfl) (mmC (mmI il_L_law_22 21 rfl) (mmC (mmI il_L_law_22 22 rfl) (mmC (mmI il_L_law_22 23 rfl) (mmC (mmI il_L_law_23 0 rfl) (mmC (mmI il_L_law_23 1 rfl) (mmC (mmI il_L_law_23 2 rfl) (mmC (mmI il_L_law_23 3 rfl) (mmC (mmI il_L_law_23 4 rfl) (mmC (mmI il_L_law_23 5 rfl) (mmC (mmI il_L_law_23 6 rfl) mmN)))))))))))))))))))))))) (mmC (mmI il_L_law_23 7 rfl) (mmC (mmI il_L_law_23 8 rfl) (mmC (mmI il_L_law_23 9 rfl) (mmC (mmI il_L_law_23 10 rfl) (mmC (mmI il_L_law_23 11 rfl) (mmC (mmI il_L_law_23 12 rfl) (mmC (mmI il_L_law_23 13 rfl) (mmC (mmI il_L_law_23 14 rfl) (mmC (mmI il_L_law_23 15 rfl) (mmC (mmI il_L_law_33 22 rfl) (mmC (mmI il_L_law_33 23 rfl) (mmC (mmI il_L_law_34 0 rfl) (mmC (mmI il_L_law_34 1 rfl) mmN)))))))))))))))))) il_L_law_48)) gw_X11_allot
theorem gL_law_X11_allot : GoodIn wsL_law (wsV RL 100 RX11 yX11_allot wsX11_allot) := goodIn_app (goodIn_sub (mmC (mmI il_L_law_33 13 rfl) (mmC (mmI il_L_law_33 14 rfl) (mmC (mmI il_L_law_33 15 rfl) (mmC (mmI il_L_law_1 5 rfl) mmN)))) (by decide +kernel)) ggL_law_X11_allot
set_option maxRecDepth 100000 in
theorem ggL_law_X10_fine : GoodIn wsL_law wsX10_fine := goodIn_sub (mmC (mmI il_L_law_34 5 rfl) (mmA (mmA (mmA (mmA (mmC (mmI il_L_law_12 5 rfl) (mmC (mmI il_L_law_12 2 rfl) (mmC (mmI il_L_law_16 9 rfl) (mmC (mmI il_L_law_7 4 rfl) (mmC (mmI il_L_law_34 6 rfl) (mmC (mmI il_L_law_34 7 rfl) (mmC (mmI il_L_law_34 8 rfl) (mmC (mmI il_L_law_34 9 rfl) (mmC (mmI il_L_law_34 10 rfl) (mmC (mmI il_L_law_16 1 rfl) (mmC (mmI il_L_law_16 2 rfl) (mmC (mmI il_L_law_16 3 rfl) (mmC (mmI il_L_law_1 2 rfl) (mmC (mmI il_L_law_16 4 rfl) (mmC (mmI il_L_law_12 3 rfl) (mmC (mmI il_L_law_1 18 rfl) (mmC (mmI il_L_law_7 5 rfl) (mmC (mmI il_L_law_7 6 rfl) (mmC (mmI il_L_law_7 7 rfl) (mmC (mmI il_L_law_7 8 rfl) (mmC (mmI il_L_law_2 15 rfl) (mmC (mmI il_L_law_34 11 rfl) (mmC (mmI il_L_law_34 12 rfl) (mmC (mmI il_L_law_34 13 rfl) mmN)))))))))))))))))))))))) (mmC (mmI il_L_law_34 14 rfl) (mmC (mmI il_L_law_1 11 rfl) (mmC (mmI il_L_law_1 12 rfl) (mmC (mmI il_L_law_34 15 rfl) (mmC (mmI il_L_law_34 16 rfl) (mmC (mmI il_L_law_34 17 rfl) mmN))))))) il_L_law_56) il_L_law_47) il_L_law_58)) gw_X10_fine
theorem gL_law_X10_fine : GoodIn wsL_law (wsV RL 101 RX10 yX10_fine wsX10_fine) := goodIn_app (goodIn_sub (mmC (mmI il_L_law_34 2 rfl) (mmC (mmI il_L_law_34 3 rfl) (mmC (mmI il_L_law_34 4 rfl) (mmC (mmI il_L_law_1 2 rfl) mmN)))) (by decide +kernel)) ggL_law_X10_fine
set_option maxRecDepth 100000 in
theorem ggL_law_X11_fine : GoodIn wsL_law wsX11_fine := goodIn_sub (mmC (mmI il_L_law_34 21 rfl) (mmA (mmC (mmI il_L_law_6 2 rfl) (mmC (mmI il_L_law_6 1 rfl) (mmC (mmI il_L_law_7 13 rfl) (mmC (mmI il_L_law_6 6 rfl) (mmC (mmI il_L_law_6 9 rfl) (mmC (mmI il_L_law_6 10 rfl) (mmC (mmI il_L_law_6 14 rfl) (mmC (mmI il_L_law_16 19 rfl) (mmC (mmI il_L_law_16 20 rfl) (mmC (mmI il_L_law_16 21 rfl) (mmC (mmI il_L_law_1 5 rfl) (mmC (mmI il_L_law_16 22 rfl) (mmC (mmI il_L_law_13 0 rfl) (mmC (mmI il_L_law_8 12 rfl) (mmC (mmI il_L_law_8 13 rfl) (mmC (mmI il_L_law_8 14 rfl) (mmC (mmI il_L_law_7 14 rfl) (mmC (mmI il_L_law_7 15 rfl) (mmC (mmI il_L_law_7 16 rfl) (mmC (mmI il_L_law_7 17 rfl) (mmC (mmI il_L_law_5 0 rfl) mmN))))))))))))))))))))) il_L_law_48)) gw_X11_fine
theorem gL_law_X11_fine : GoodIn wsL_law (wsV RL 105 RX11 yX11_fine wsX11_fine) := goodIn_app (goodIn_sub (mmC (mmI il_L_law_34 18 rfl) (mmC (mmI il_L_law_34 19 rfl) (mmC (mmI il_L_law_34 20 rfl) (mmC (mmI il_L_law_1 5 rfl) mmN)))) (by decide +kernel)) ggL_law_X11_fine
theorem dL_law_925 : decode cL_law 925 = .ok (.aload_n 1, 1) := by decide +kernel
theorem dL_law_926 : decode cL_law 926 = .ok (.aload_n 0, 1) := by decide +kernel
theorem dL_law_927 : decode cL_law 927 = .ok (.iload_n 3, 1) := by decide +kernel
theorem dL_law_928 : decode cL_law 928 = .ok (.iconst 1, 1) := by decide +kernel
theorem dL_law_929 : decode cL_law 929 = .ok (.iadd, 1) := by decide +kernel
theorem dL_law_930 : decode cL_law 930 = .ok (.iaload, 1) := by decide +kernel
theorem dL_law_931 : decode cL_law 931 = .ok (.aload_n 0, 1) := by decide +kernel
theorem dL_law_932 : decode cL_law 932 = .ok (.iload_n 3, 1) := by decide +kernel
theorem dL_law_933 : decode cL_law 933 = .ok (.iconst 2, 1) := by decide +kernel
theorem dL_law_934 : decode cL_law 934 = .ok (.iadd, 1) := by decide +kernel
theorem dL_law_935 : decode cL_law 935 = .ok (.iaload, 1) := by decide +kernel
theorem dL_law_936 : decode cL_law 936 = .ok (.invokevirtual 97, 3) := by decide +kernel
theorem dL_law_939 : decode cL_law 939 = .ok (.pop, 1) := by decide +kernel
theorem dL_law_940 : decode cL_law 940 = .ok (.aload_n 2, 1) := by decide +kernel
theorem dL_law_941 : decode cL_law 941 = .ok (.aload_n 0, 1) := by decide +kernel
theorem dL_law_942 : decode cL_law 942 = .ok (.iload_n 3, 1) := by decide +kernel
theorem dL_law_943 : decode cL_law 943 = .ok (.iconst 1, 1) := by decide +kernel
theorem dL_law_944 : decode cL_law 944 = .ok (.iadd, 1) := by decide +kernel
theorem dL_law_945 : decode cL_law 945 = .ok (.iaload, 1) := by decide +kernel
theorem dL_law_946 : decode cL_law 946 = .ok (.aload_n 0, 1) := by decide +kernel
theorem dL_law_947 : decode cL_law 947 = .ok (.iload_n 3, 1) := by decide +kernel
theorem dL_law_948 : decode cL_law 948 = .ok (.iconst 2, 1) := by decide +kernel
theorem dL_law_949 : decode cL_law 949 = .ok (.iadd, 1) := by decide +kernel
theorem dL_law_950 : decode cL_law 950 = .ok (.iaload, 1) := by decide +kernel
theorem dL_law_951 : decode cL_law 951 = .ok (.invokevirtual 100, 3) := by decide +kernel
theorem dL_law_954 : decode cL_law 954 = .ok (.pop, 1) := by decide +kernel
theorem dL_law_955 : decode cL_law 955 = .ok (.goto 544, 3) := by decide +kernel
theorem dL_law_958 : decode cL_law 958 = .ok (.aload_n 1, 1) := by decide +kernel
theorem dL_law_959 : decode cL_law 959 = .ok (.aload_n 0, 1) := by decide +kernel
theorem dL_law_960 : decode cL_law 960 = .ok (.iload_n 3, 1) := by decide +kernel
theorem dL_law_961 : decode cL_law 961 = .ok (.iconst 1, 1) := by decide +kernel
theorem dL_law_962 : decode cL_law 962 = .ok (.iadd, 1) := by decide +kernel
theorem dL_law_963 : decode cL_law 963 = .ok (.iaload, 1) := by decide +kernel
theorem dL_law_964 : decode cL_law 964 = .ok (.aload_n 0, 1) := by decide +kernel
theorem dL_law_965 : decode cL_law 965 = .ok (.iload_n 3, 1) := by decide +kernel
theorem dL_law_966 : decode cL_law 966 = .ok (.iconst 2, 1) := by decide +kernel
theorem dL_law_967 : decode cL_law 967 = .ok (.iadd, 1) := by decide +kernel
theorem dL_law_968 : decode cL_law 968 = .ok (.iaload, 1) := by decide +kernel
theorem dL_law_969 : decode cL_law 969 = .ok (.aload_n 0, 1) := by decide +kernel
theorem dL_law_970 : decode cL_law 970 = .ok (.iload_n 3, 1) := by decide +kernel
theorem dL_law_971 : decode cL_law 971 = .ok (.iconst 3, 1) := by decide +kernel
theorem dL_law_972 : decode cL_law 972 = .ok (.iadd, 1) := by decide +kernel
theorem dL_law_973 : decode cL_law 973 = .ok (.iaload, 1) := by decide +kernel
theorem dL_law_974 : decode cL_law 974 = .ok (.aload_n 0, 1) := by decide +kernel
theorem dL_law_975 : decode cL_law 975 = .ok (.iload_n 3, 1) := by decide +kernel
theorem dL_law_976 : decode cL_law 976 = .ok (.iconst 4, 1) := by decide +kernel
theorem dL_law_977 : decode cL_law 977 = .ok (.iadd, 1) := by decide +kernel
theorem dL_law_978 : decode cL_law 978 = .ok (.iaload, 1) := by decide +kernel
theorem dL_law_979 : decode cL_law 979 = .ok (.ifCond .eq 7, 3) := by decide +kernel
theorem dL_law_982 : decode cL_law 982 = .ok (.iconst 1, 1) := by decide +kernel
theorem dL_law_983 : decode cL_law 983 = .ok (.goto 4, 3) := by decide +kernel
theorem dL_law_986 : decode cL_law 986 = .ok (.iconst 0, 1) := by decide +kernel
theorem dL_law_987 : decode cL_law 987 = .ok (.invokevirtual 101, 3) := by decide +kernel
theorem dL_law_990 : decode cL_law 990 = .ok (.pop, 1) := by decide +kernel
theorem dL_law_991 : decode cL_law 991 = .ok (.aload_n 2, 1) := by decide +kernel
theorem dL_law_992 : decode cL_law 992 = .ok (.aload_n 0, 1) := by decide +kernel
theorem dL_law_993 : decode cL_law 993 = .ok (.iload_n 3, 1) := by decide +kernel
theorem dL_law_994 : decode cL_law 994 = .ok (.iconst 1, 1) := by decide +kernel
theorem dL_law_995 : decode cL_law 995 = .ok (.iadd, 1) := by decide +kernel
theorem dL_law_996 : decode cL_law 996 = .ok (.iaload, 1) := by decide +kernel
theorem dL_law_997 : decode cL_law 997 = .ok (.aload_n 0, 1) := by decide +kernel
theorem dL_law_998 : decode cL_law 998 = .ok (.iload_n 3, 1) := by decide +kernel
theorem dL_law_999 : decode cL_law 999 = .ok (.iconst 2, 1) := by decide +kernel
theorem dL_law_1000 : decode cL_law 1000 = .ok (.iadd, 1) := by decide +kernel
theorem dL_law_1001 : decode cL_law 1001 = .ok (.iaload, 1) := by decide +kernel
theorem dL_law_1002 : decode cL_law 1002 = .ok (.aload_n 0, 1) := by decide +kernel
theorem dL_law_1003 : decode cL_law 1003 = .ok (.iload_n 3, 1) := by decide +kernel
theorem dL_law_1004 : decode cL_law 1004 = .ok (.iconst 3, 1) := by decide +kernel
theorem dL_law_1005 : decode cL_law 1005 = .ok (.iadd, 1) := by decide +kernel
theorem dL_law_1006 : decode cL_law 1006 = .ok (.iaload, 1) := by decide +kernel
theorem dL_law_1007 : decode cL_law 1007 = .ok (.aload_n 0, 1) := by decide +kernel
theorem dL_law_1008 : decode cL_law 1008 = .ok (.iload_n 3, 1) := by decide +kernel
theorem dL_law_1009 : decode cL_law 1009 = .ok (.iconst 4, 1) := by decide +kernel
theorem dL_law_1010 : decode cL_law 1010 = .ok (.iadd, 1) := by decide +kernel
theorem dL_law_1011 : decode cL_law 1011 = .ok (.iaload, 1) := by decide +kernel
theorem dL_law_1012 : decode cL_law 1012 = .ok (.ifCond .eq 7, 3) := by decide +kernel
theorem dL_law_1015 : decode cL_law 1015 = .ok (.iconst 1, 1) := by decide +kernel
theorem dL_law_1016 : decode cL_law 1016 = .ok (.goto 4, 3) := by decide +kernel
theorem dL_law_1019 : decode cL_law 1019 = .ok (.iconst 0, 1) := by decide +kernel
theorem dL_law_1020 : decode cL_law 1020 = .ok (.invokevirtual 105, 3) := by decide +kernel
theorem dL_law_1023 : decode cL_law 1023 = .ok (.pop, 1) := by decide +kernel
theorem dL_law_1024 : decode cL_law 1024 = .ok (.goto 475, 3) := by decide +kernel


set_option maxHeartbeats 4000000 in
set_option maxRecDepth 100000 in
theorem lc_19 {p : Program} {l : Launch} {e : Env} {s : State} {m : MethodId} {below : List Frame} {meth : Method} {c : Code} {b L : Nat} {xs : Nat → Int32} {A : Nat → Prop} {dC : Nat → ClassId} {dI : Nat → Nat → Nat} {tL tS tG h0 g0 : Nat} {pq : Nat → Nat} {cq cp : Nat → ClassId} (C0 : lw_At p s m meth c b L xs) (hL : L ≤ 3072) (hA : ∀ q : Nat, s.heap.size ≤ q → A q) (hAq : ∀ q, A q → s.heap.size ≤ q) (hZ : stO A tL tS tG s s.heap) (hKo : va_K (dC, dI) vwCl (oT cq) s) (hKm : va_K (dC, dI) vwCl (mT cp) s) {S : oS} {v : Nat → Int32} {fa : Nat → Nat → Int32} {H : Heap} {locs : List Loc} {i cells slots : Nat} (hi : i + 6 ≤ L) (hcl : cells ≤ 500000) (hsl : slots ≤ 7000000) (hJ : lwI S h0 v fa) (hH : lwH (dC, dI) A cq cp g0 pq S v fa H) (hS : va_S A s.heap H locs) {ls : Array Slot} (hl : lv_has ls 4 [(3, .int (nI i)), (2, .ref g0), (1, .ref h0), (0, .ref b)]) (K : (∀ (S1 : oS) (v1 : Nat → Int32) (fa1 : Nat → Nat → Int32) (H1 : Heap) (locs1 : List Loc) (ls1 : Array Slot), lwI S1 h0 v1 fa1 → lwH (dC, dI) A cq cp g0 pq S1 v1 fa1 H1 → va_S A s.heap H1 locs1 → lv_has ls1 4 [(3, .int (nI i)), (2, .ref g0), (1, .ref h0), (0, .ref b)] → W p l e room_1 s m #[Value.ref b] below meth c H1 locs1 (cells + 4) (slots + 134) (lw_Z below #[Value.ref b] s) (F0 m 1499 ls1 []))) : W p l e room_1 s m #[Value.ref b] below meth c H locs cells slots (lw_Z below #[Value.ref b] s) (F0 m 925 ls []) := by
  obtain ⟨hx, hb, hr, hml, hown, hts, hX, hbl, hlocks, hgv⟩ := id C0
  have hts := fun w h => hts w (wsL_law_in w h)
  have hown : s.vm.findClass RL = some m.cls := hown
  have hbA : ¬ A b := fun h => Nat.not_le.mpr hbl (hAq b h)
  refine lv_aload_n hx hb dL_law_925 rfl (lv_at hl 2 rfl) ?_
  refine lv_aload_n hx hb dL_law_926 rfl (lv_at hl 3 rfl) ?_
  refine lv_iload_n hx hb dL_law_927 rfl (lv_at hl 0 rfl) ?_
  refine lv_iconst (v := 1) hx hb dL_law_928 (by decide +kernel) ?_
  refine lv_iadd hx hb dL_law_929 ?_
  refine lv_topi (fun y_1 ey_1 => ?_)
  have hy_1 : y_1.toInt = (i : Int) + 1 := by rw [ey_1]; exact ad_i (nI_toInt (by omega)) (by decide +kernel) (by omega) (by omega)
  have ny_1 : y_1.toNatClampNeg = i + 1 := (show y_1.toInt.toNat = _ by omega)
  clear ey_1
  refine va_sld hx hb hX hbl hbA hS (vp_in_iff.mpr (by omega)) dL_law_930 ?_
  refine lv_topi (fun z_2 ez_2 => ?_)
  obtain rfl : z_2 = xs (i + 1) := ez_2.trans (by rw [ny_1])
  clear ny_1 hy_1
  refine lv_aload_n hx hb dL_law_931 rfl (lv_at hl 3 rfl) ?_
  refine lv_iload_n hx hb dL_law_932 rfl (lv_at hl 0 rfl) ?_
  refine lv_iconst (v := 2) hx hb dL_law_933 (by decide +kernel) ?_
  refine lv_iadd hx hb dL_law_934 ?_
  refine lv_topi (fun y_3 ey_3 => ?_)
  have hy_3 : y_3.toInt = (i : Int) + 2 := by rw [ey_3]; exact ad_i (nI_toInt (by omega)) (by decide +kernel) (by omega) (by omega)
  have ny_3 : y_3.toNatClampNeg = i + 2 := (show y_3.toInt.toNat = _ by omega)
  clear ey_3
  refine va_sld hx hb hX hbl hbA hS (vp_in_iff.mpr (by omega)) dL_law_935 ?_
  refine lv_topi (fun z_4 ez_4 => ?_)
  obtain rfl : z_4 = xs (i + 2) := ez_4.trans (by rw [ny_3])
  clear ny_3 hy_3
  obtain ⟨hI_o, to, gV, gA, hlw⟩ := id hJ
  obtain ⟨hPo, hDo, hPm, hDm, hdis⟩ := id hH
  have hFc := o_free hDo hS hA
  obtain ⟨q0, hq0⟩ := og (cq := cq) to.1 (oE_10 to.2)
  refine va_calli (va_runV (As := [.int (xs (i + 1)), .int (xs (i + 2))]) (rest := []) ⟨hx, hb, hml, hown, hts⟩ (c_X10_allot l dC dI H.size cq S hI_o h0 to (xs (i + 1)) (xs (i + 2))) (cwV 2 hts gL_law_X10_allot rfl rfl rfl (by decide +kernel) ⟨(Nat.le_of_ble_eq_true rfl), (Nat.le_of_ble_eq_true rfl)⟩) (pr_V (r := (RX10, TX10, 16)) hPo hKo hDo q0 10 rfl hq0) rfl rfl hl.1 rfl (lv_room (Nat.le_of_ble_eq_true rfl)) dL_law_936 ⟨(show cells + 0 ≤ 600000 by omega), (show slots + 0 ≤ 7302250 by omega)⟩) hS (fun q _ h => hFc q h) hFc (fun r_6 u t H locs ht hvm w_5 hB hz1 hk1 hS => ?_)
  obtain ⟨S9, rfl⟩ : ∃ z, z = u := ⟨_, rfl⟩
  obtain ⟨hP1, hK1, hD1⟩ := hB
  rw [ht] at hP1
  have hH := lwH_o hH hFc hk1 hP1 hD1
  clear hP1 hK1 hD1
  have hJ := lwI_o hJ w_5.1 w_5.2 (by decide +kernel)
  clear hk1 hz1 hvm ht hFc
  refine lv_pop hx hb dL_law_939 rfl ?_
  refine lv_aload_n hx hb dL_law_940 rfl (lv_at hl 1 rfl) ?_
  refine lv_aload_n hx hb dL_law_941 rfl (lv_at hl 3 rfl) ?_
  refine lv_iload_n hx hb dL_law_942 rfl (lv_at hl 0 rfl) ?_
  refine lv_iconst (v := 1) hx hb dL_law_943 (by decide +kernel) ?_
  refine lv_iadd hx hb dL_law_944 ?_
  refine lv_topi (fun y_7 ey_7 => ?_)
  have hy_7 : y_7.toInt = (i : Int) + 1 := by rw [ey_7]; exact ad_i (nI_toInt (by omega)) (by decide +kernel) (by omega) (by omega)
  have ny_7 : y_7.toNatClampNeg = i + 1 := (show y_7.toInt.toNat = _ by omega)
  clear ey_7
  refine va_sld hx hb hX hbl hbA hS (vp_in_iff.mpr (by omega)) dL_law_945 ?_
  refine lv_topi (fun z_8 ez_8 => ?_)
  obtain rfl : z_8 = xs (i + 1) := ez_8.trans (by rw [ny_7])
  clear ny_7 hy_7
  refine lv_aload_n hx hb dL_law_946 rfl (lv_at hl 3 rfl) ?_
  refine lv_iload_n hx hb dL_law_947 rfl (lv_at hl 0 rfl) ?_
  refine lv_iconst (v := 2) hx hb dL_law_948 (by decide +kernel) ?_
  refine lv_iadd hx hb dL_law_949 ?_
  refine lv_topi (fun y_9 ey_9 => ?_)
  have hy_9 : y_9.toInt = (i : Int) + 2 := by rw [ey_9]; exact ad_i (nI_toInt (by omega)) (by decide +kernel) (by omega) (by omega)
  have ny_9 : y_9.toNatClampNeg = i + 2 := (show y_9.toInt.toNat = _ by omega)
  clear ey_9
  refine va_sld hx hb hX hbl hbA hS (vp_in_iff.mpr (by omega)) dL_law_950 ?_
  refine lv_topi (fun z_10 ez_10 => ?_)
  obtain rfl : z_10 = xs (i + 2) := ez_10.trans (by rw [ny_9])
  clear ny_9 hy_9
  obtain ⟨hI_o, to, gV, gA, hlw⟩ := id hJ
  obtain ⟨hPo, hDo, hPm, hDm, hdis⟩ := id hH
  have hFc := o_free hDm hS hA
  refine va_calli (va_runV (As := [.int (xs (i + 1)), .int (xs (i + 2))]) (rest := []) ⟨hx, hb, hml, hown, hts⟩ (c_X11_allot l dC dI H.size g0 pq cp v fa gV gA (xs (i + 1)) (xs (i + 2))) (cwV 2 hts gL_law_X11_allot rfl rfl rfl (by decide +kernel) ⟨(Nat.le_of_ble_eq_true rfl), (Nat.le_of_ble_eq_true rfl)⟩) (pr_V (r := (RX11, TX11, 63)) hPm hKm hDm 0 11 rfl rfl) rfl rfl hl.1 rfl (lv_room (Nat.le_of_ble_eq_true rfl)) dL_law_951 ⟨(show cells + 0 ≤ 600000 by omega), (show slots + 0 ≤ 7302250 by omega)⟩) hS (fun q _ h => hFc q h) hFc (fun r_12 u t H locs ht hvm w_11 hB hz1 hk1 hS => ?_)
  obtain ⟨v1, fa1⟩ := u
  obtain ⟨hP1, hK1, hD1⟩ := hB
  rw [ht] at hP1
  dsimp only at hP1 hD1
  have hH := lwH_m hH hFc hk1 hP1 hD1
  clear hP1 hK1 hD1
  obtain ⟨hV1, hA1, hn1⟩ := w_11
  dsimp only at hV1 hA1 hn1
  have hJ := lwI_m hJ hV1 hA1 hn1 (by decide +kernel)
  clear hk1 hz1 hvm ht hFc
  refine lv_pop hx hb dL_law_954 rfl ?_
  refine lv_goto (tgt := 1499) hx hb dL_law_955 (by decide +kernel) ?_
  refine W.widen (k := cells + 4) (n := slots + 134) (by omega) (by omega) ?_
  exact K _ _ _ _ _ _ hJ hH hS hl
set_option maxHeartbeats 4000000 in
set_option maxRecDepth 100000 in
theorem lc_20 {p : Program} {l : Launch} {e : Env} {s : State} {m : MethodId} {below : List Frame} {meth : Method} {c : Code} {b L : Nat} {xs : Nat → Int32} {A : Nat → Prop} {dC : Nat → ClassId} {dI : Nat → Nat → Nat} {tL tS tG h0 g0 : Nat} {pq : Nat → Nat} {cq cp : Nat → ClassId} (C0 : lw_At p s m meth c b L xs) (hL : L ≤ 3072) (hA : ∀ q : Nat, s.heap.size ≤ q → A q) (hAq : ∀ q, A q → s.heap.size ≤ q) (hZ : stO A tL tS tG s s.heap) (hKo : va_K (dC, dI) vwCl (oT cq) s) (hKm : va_K (dC, dI) vwCl (mT cp) s) {S : oS} {v : Nat → Int32} {fa : Nat → Nat → Int32} {H : Heap} {locs : List Loc} {i cells slots : Nat} (hi : i + 6 ≤ L) (hcl : cells ≤ 500000) (hsl : slots ≤ 7000000) (hJ : lwI S h0 v fa) (hH : lwH (dC, dI) A cq cp g0 pq S v fa H) (hS : va_S A s.heap H locs) {ls : Array Slot} (hl : lv_has ls 4 [(3, .int (nI i)), (2, .ref g0), (1, .ref h0), (0, .ref b)]) (K : (∀ (S1 : oS) (v1 : Nat → Int32) (fa1 : Nat → Nat → Int32) (H1 : Heap) (locs1 : List Loc) (ls1 : Array Slot), lwI S1 h0 v1 fa1 → lwH (dC, dI) A cq cp g0 pq S1 v1 fa1 H1 → va_S A s.heap H1 locs1 → lv_has ls1 4 [(3, .int (nI i)), (2, .ref g0), (1, .ref h0), (0, .ref b)] → W p l e room_1 s m #[Value.ref b] below meth c H1 locs1 (cells + 4) (slots + 134) (lw_Z below #[Value.ref b] s) (F0 m 1499 ls1 []))) : W p l e room_1 s m #[Value.ref b] below meth c H locs cells slots (lw_Z below #[Value.ref b] s) (F0 m 958 ls []) := by
  obtain ⟨hx, hb, hr, hml, hown, hts, hX, hbl, hlocks, hgv⟩ := id C0
  have hts := fun w h => hts w (wsL_law_in w h)
  have hown : s.vm.findClass RL = some m.cls := hown
  have hbA : ¬ A b := fun h => Nat.not_le.mpr hbl (hAq b h)
  refine lv_aload_n hx hb dL_law_958 rfl (lv_at hl 2 rfl) ?_
  refine lv_aload_n hx hb dL_law_959 rfl (lv_at hl 3 rfl) ?_
  refine lv_iload_n hx hb dL_law_960 rfl (lv_at hl 0 rfl) ?_
  refine lv_iconst (v := 1) hx hb dL_law_961 (by decide +kernel) ?_
  refine lv_iadd hx hb dL_law_962 ?_
  refine lv_topi (fun y_1 ey_1 => ?_)
  have hy_1 : y_1.toInt = (i : Int) + 1 := by rw [ey_1]; exact ad_i (nI_toInt (by omega)) (by decide +kernel) (by omega) (by omega)
  have ny_1 : y_1.toNatClampNeg = i + 1 := (show y_1.toInt.toNat = _ by omega)
  clear ey_1
  refine va_sld hx hb hX hbl hbA hS (vp_in_iff.mpr (by omega)) dL_law_963 ?_
  refine lv_topi (fun z_2 ez_2 => ?_)
  obtain rfl : z_2 = xs (i + 1) := ez_2.trans (by rw [ny_1])
  clear ny_1 hy_1
  refine lv_aload_n hx hb dL_law_964 rfl (lv_at hl 3 rfl) ?_
  refine lv_iload_n hx hb dL_law_965 rfl (lv_at hl 0 rfl) ?_
  refine lv_iconst (v := 2) hx hb dL_law_966 (by decide +kernel) ?_
  refine lv_iadd hx hb dL_law_967 ?_
  refine lv_topi (fun y_3 ey_3 => ?_)
  have hy_3 : y_3.toInt = (i : Int) + 2 := by rw [ey_3]; exact ad_i (nI_toInt (by omega)) (by decide +kernel) (by omega) (by omega)
  have ny_3 : y_3.toNatClampNeg = i + 2 := (show y_3.toInt.toNat = _ by omega)
  clear ey_3
  refine va_sld hx hb hX hbl hbA hS (vp_in_iff.mpr (by omega)) dL_law_968 ?_
  refine lv_topi (fun z_4 ez_4 => ?_)
  obtain rfl : z_4 = xs (i + 2) := ez_4.trans (by rw [ny_3])
  clear ny_3 hy_3
  refine lv_aload_n hx hb dL_law_969 rfl (lv_at hl 3 rfl) ?_
  refine lv_iload_n hx hb dL_law_970 rfl (lv_at hl 0 rfl) ?_
  refine lv_iconst (v := 3) hx hb dL_law_971 (by decide +kernel) ?_
  refine lv_iadd hx hb dL_law_972 ?_
  refine lv_topi (fun y_5 ey_5 => ?_)
  have hy_5 : y_5.toInt = (i : Int) + 3 := by rw [ey_5]; exact ad_i (nI_toInt (by omega)) (by decide +kernel) (by omega) (by omega)
  have ny_5 : y_5.toNatClampNeg = i + 3 := (show y_5.toInt.toNat = _ by omega)
  clear ey_5
  refine va_sld hx hb hX hbl hbA hS (vp_in_iff.mpr (by omega)) dL_law_973 ?_
  refine lv_topi (fun z_6 ez_6 => ?_)
  obtain rfl : z_6 = xs (i + 3) := ez_6.trans (by rw [ny_5])
  clear ny_5 hy_5
  refine lv_aload_n hx hb dL_law_974 rfl (lv_at hl 3 rfl) ?_
  refine lv_iload_n hx hb dL_law_975 rfl (lv_at hl 0 rfl) ?_
  refine lv_iconst (v := 4) hx hb dL_law_976 (by decide +kernel) ?_
  refine lv_iadd hx hb dL_law_977 ?_
  refine lv_topi (fun y_7 ey_7 => ?_)
  have hy_7 : y_7.toInt = (i : Int) + 4 := by rw [ey_7]; exact ad_i (nI_toInt (by omega)) (by decide +kernel) (by omega) (by omega)
  have ny_7 : y_7.toNatClampNeg = i + 4 := (show y_7.toInt.toNat = _ by omega)
  clear ey_7
  refine va_sld hx hb hX hbl hbA hS (vp_in_iff.mpr (by omega)) dL_law_978 ?_
  refine lv_topi (fun z_8 ez_8 => ?_)
  obtain rfl : z_8 = xs (i + 4) := ez_8.trans (by rw [ny_7])
  clear ny_7 hy_7
  refine lv_if_eq (tgt := 986) hx hb dL_law_979 (by decide +kernel) (fun c_9 => ?_) (fun c_9 => ?_)
  · refine lv_iconst (v := 0) hx hb dL_law_986 (by decide +kernel) ?_
    obtain ⟨hI_o, to, gV, gA, hlw⟩ := id hJ
    obtain ⟨hPo, hDo, hPm, hDm, hdis⟩ := id hH
    have hFc := o_free hDo hS hA
    obtain ⟨q0, hq0⟩ := og (cq := cq) to.1 (oE_10 to.2)
    refine va_calli (va_runV (As := [.int (xs (i + 1)), .int (xs (i + 2)), .int (xs (i + 3)), .int 0]) (rest := []) ⟨hx, hb, hml, hown, hts⟩ (c_X10_fine l dC dI H.size cq S hI_o h0 to (xs (i + 1)) (xs (i + 2)) (xs (i + 3)) 0 (by decide +kernel)) (cwV 4 hts gL_law_X10_fine rfl rfl rfl (by decide +kernel) ⟨(Nat.le_of_ble_eq_true rfl), (Nat.le_of_ble_eq_true rfl)⟩) (pr_V (r := (RX10, TX10, 16)) hPo hKo hDo q0 10 rfl hq0) rfl rfl hl.1 rfl (lv_room (Nat.le_of_ble_eq_true rfl)) dL_law_987 ⟨(show cells + 1 ≤ 600000 by omega), (show slots + 3 ≤ 7302250 by omega)⟩) hS (fun q _ h => hFc q h) hFc (fun r_11 u t H locs ht hvm w_10 hB hz1 hk1 hS => ?_)
    refine W.widen (k := cells + 1) (n := slots + 3) (by omega) (by omega) ?_
    obtain ⟨S9, rfl⟩ : ∃ z, z = u := ⟨_, rfl⟩
    obtain ⟨hP1, hK1, hD1⟩ := hB
    rw [ht] at hP1
    have hH := lwH_o hH hFc hk1 hP1 hD1
    clear hP1 hK1 hD1
    have hJ := lwI_o hJ w_10.1 w_10.2 (by decide +kernel)
    clear hk1 hz1 hvm ht hFc
    refine lv_pop hx hb dL_law_990 rfl ?_
    refine lv_aload_n hx hb dL_law_991 rfl (lv_at hl 1 rfl) ?_
    refine lv_aload_n hx hb dL_law_992 rfl (lv_at hl 3 rfl) ?_
    refine lv_iload_n hx hb dL_law_993 rfl (lv_at hl 0 rfl) ?_
    refine lv_iconst (v := 1) hx hb dL_law_994 (by decide +kernel) ?_
    refine lv_iadd hx hb dL_law_995 ?_
    refine lv_topi (fun y_12 ey_12 => ?_)
    have hy_12 : y_12.toInt = (i : Int) + 1 := by rw [ey_12]; exact ad_i (nI_toInt (by omega)) (by decide +kernel) (by omega) (by omega)
    have ny_12 : y_12.toNatClampNeg = i + 1 := (show y_12.toInt.toNat = _ by omega)
    clear ey_12
    refine va_sld hx hb hX hbl hbA hS (vp_in_iff.mpr (by omega)) dL_law_996 ?_
    refine lv_topi (fun z_13 ez_13 => ?_)
    obtain rfl : z_13 = xs (i + 1) := ez_13.trans (by rw [ny_12])
    clear ny_12 hy_12
    refine lv_aload_n hx hb dL_law_997 rfl (lv_at hl 3 rfl) ?_
    refine lv_iload_n hx hb dL_law_998 rfl (lv_at hl 0 rfl) ?_
    refine lv_iconst (v := 2) hx hb dL_law_999 (by decide +kernel) ?_
    refine lv_iadd hx hb dL_law_1000 ?_
    refine lv_topi (fun y_14 ey_14 => ?_)
    have hy_14 : y_14.toInt = (i : Int) + 2 := by rw [ey_14]; exact ad_i (nI_toInt (by omega)) (by decide +kernel) (by omega) (by omega)
    have ny_14 : y_14.toNatClampNeg = i + 2 := (show y_14.toInt.toNat = _ by omega)
    clear ey_14
    refine va_sld hx hb hX hbl hbA hS (vp_in_iff.mpr (by omega)) dL_law_1001 ?_
    refine lv_topi (fun z_15 ez_15 => ?_)
    obtain rfl : z_15 = xs (i + 2) := ez_15.trans (by rw [ny_14])
    clear ny_14 hy_14
    refine lv_aload_n hx hb dL_law_1002 rfl (lv_at hl 3 rfl) ?_
    refine lv_iload_n hx hb dL_law_1003 rfl (lv_at hl 0 rfl) ?_
    refine lv_iconst (v := 3) hx hb dL_law_1004 (by decide +kernel) ?_
    refine lv_iadd hx hb dL_law_1005 ?_
    refine lv_topi (fun y_16 ey_16 => ?_)
    have hy_16 : y_16.toInt = (i : Int) + 3 := by rw [ey_16]; exact ad_i (nI_toInt (by omega)) (by decide +kernel) (by omega) (by omega)
    have ny_16 : y_16.toNatClampNeg = i + 3 := (show y_16.toInt.toNat = _ by omega)
    clear ey_16
    refine va_sld hx hb hX hbl hbA hS (vp_in_iff.mpr (by omega)) dL_law_1006 ?_
    refine lv_topi (fun z_17 ez_17 => ?_)
    obtain rfl : z_17 = xs (i + 3) := ez_17.trans (by rw [ny_16])
    clear ny_16 hy_16
    refine lv_aload_n hx hb dL_law_1007 rfl (lv_at hl 3 rfl) ?_
    refine lv_iload_n hx hb dL_law_1008 rfl (lv_at hl 0 rfl) ?_
    refine lv_iconst (v := 4) hx hb dL_law_1009 (by decide +kernel) ?_
    refine lv_iadd hx hb dL_law_1010 ?_
    refine lv_topi (fun y_18 ey_18 => ?_)
    have hy_18 : y_18.toInt = (i : Int) + 4 := by rw [ey_18]; exact ad_i (nI_toInt (by omega)) (by decide +kernel) (by omega) (by omega)
    have ny_18 : y_18.toNatClampNeg = i + 4 := (show y_18.toInt.toNat = _ by omega)
    clear ey_18
    refine va_sld hx hb hX hbl hbA hS (vp_in_iff.mpr (by omega)) dL_law_1011 ?_
    refine lv_topi (fun z_19 ez_19 => ?_)
    obtain rfl : z_19 = xs (i + 4) := ez_19.trans (by rw [ny_18])
    clear ny_18 hy_18
    refine lv_if_eq (tgt := 1019) hx hb dL_law_1012 (by decide +kernel) (fun c_20 => ?_) (fun c_20 => ?_)
    · refine lv_iconst (v := 0) hx hb dL_law_1019 (by decide +kernel) ?_
      obtain ⟨hI_o, to, gV, gA, hlw⟩ := id hJ
      obtain ⟨hPo, hDo, hPm, hDm, hdis⟩ := id hH
      have hFc := o_free hDm hS hA
      refine va_calli (va_runV (As := [.int (xs (i + 1)), .int (xs (i + 2)), .int (xs (i + 3)), .int 0]) (rest := []) ⟨hx, hb, hml, hown, hts⟩ (c_X11_fine l dC dI H.size g0 pq cp v fa gV gA (xs (i + 1)) (xs (i + 2)) (xs (i + 3)) 0) (cwV 4 hts gL_law_X11_fine rfl rfl rfl (by decide +kernel) ⟨(Nat.le_of_ble_eq_true rfl), (Nat.le_of_ble_eq_true rfl)⟩) (pr_V (r := (RX11, TX11, 63)) hPm hKm hDm 0 11 rfl rfl) rfl rfl hl.1 rfl (lv_room (Nat.le_of_ble_eq_true rfl)) dL_law_1020 ⟨(show cells + 1 + 0 ≤ 600000 by omega), (show slots + 3 + 0 ≤ 7302250 by omega)⟩) hS (fun q _ h => hFc q h) hFc (fun r_22 u t H locs ht hvm w_21 hB hz1 hk1 hS => ?_)
      obtain ⟨v1, fa1⟩ := u
      obtain ⟨hP1, hK1, hD1⟩ := hB
      rw [ht] at hP1
      dsimp only at hP1 hD1
      have hH := lwH_m hH hFc hk1 hP1 hD1
      clear hP1 hK1 hD1
      obtain ⟨hV1, hA1, hn1⟩ := w_21
      dsimp only at hV1 hA1 hn1
      have hJ := lwI_m hJ hV1 hA1 hn1 (by decide +kernel)
      clear hk1 hz1 hvm ht hFc
      refine lv_pop hx hb dL_law_1023 rfl ?_
      refine lv_goto (tgt := 1499) hx hb dL_law_1024 (by decide +kernel) ?_
      refine W.widen (k := cells + 4) (n := slots + 134) (by omega) (by omega) ?_
      exact K _ _ _ _ _ _ hJ hH hS hl
    · refine lv_iconst (v := 1) hx hb dL_law_1015 (by decide +kernel) ?_
      refine lv_goto (tgt := 1020) hx hb dL_law_1016 (by decide +kernel) ?_
      obtain ⟨hI_o, to, gV, gA, hlw⟩ := id hJ
      obtain ⟨hPo, hDo, hPm, hDm, hdis⟩ := id hH
      have hFc := o_free hDm hS hA
      refine va_calli (va_runV (As := [.int (xs (i + 1)), .int (xs (i + 2)), .int (xs (i + 3)), .int 1]) (rest := []) ⟨hx, hb, hml, hown, hts⟩ (c_X11_fine l dC dI H.size g0 pq cp v fa gV gA (xs (i + 1)) (xs (i + 2)) (xs (i + 3)) 1) (cwV 4 hts gL_law_X11_fine rfl rfl rfl (by decide +kernel) ⟨(Nat.le_of_ble_eq_true rfl), (Nat.le_of_ble_eq_true rfl)⟩) (pr_V (r := (RX11, TX11, 63)) hPm hKm hDm 0 11 rfl rfl) rfl rfl hl.1 rfl (lv_room (Nat.le_of_ble_eq_true rfl)) dL_law_1020 ⟨(show cells + 1 + 0 ≤ 600000 by omega), (show slots + 3 + 0 ≤ 7302250 by omega)⟩) hS (fun q _ h => hFc q h) hFc (fun r_24 u t H locs ht hvm w_23 hB hz1 hk1 hS => ?_)
      obtain ⟨v1, fa1⟩ := u
      obtain ⟨hP1, hK1, hD1⟩ := hB
      rw [ht] at hP1
      dsimp only at hP1 hD1
      have hH := lwH_m hH hFc hk1 hP1 hD1
      clear hP1 hK1 hD1
      obtain ⟨hV1, hA1, hn1⟩ := w_23
      dsimp only at hV1 hA1 hn1
      have hJ := lwI_m hJ hV1 hA1 hn1 (by decide +kernel)
      clear hk1 hz1 hvm ht hFc
      refine lv_pop hx hb dL_law_1023 rfl ?_
      refine lv_goto (tgt := 1499) hx hb dL_law_1024 (by decide +kernel) ?_
      refine W.widen (k := cells + 4) (n := slots + 134) (by omega) (by omega) ?_
      exact K _ _ _ _ _ _ hJ hH hS hl
  · refine lv_iconst (v := 1) hx hb dL_law_982 (by decide +kernel) ?_
    refine lv_goto (tgt := 987) hx hb dL_law_983 (by decide +kernel) ?_
    obtain ⟨hI_o, to, gV, gA, hlw⟩ := id hJ
    obtain ⟨hPo, hDo, hPm, hDm, hdis⟩ := id hH
    have hFc := o_free hDo hS hA
    obtain ⟨q0, hq0⟩ := og (cq := cq) to.1 (oE_10 to.2)
    refine va_calli (va_runV (As := [.int (xs (i + 1)), .int (xs (i + 2)), .int (xs (i + 3)), .int 1]) (rest := []) ⟨hx, hb, hml, hown, hts⟩ (c_X10_fine l dC dI H.size cq S hI_o h0 to (xs (i + 1)) (xs (i + 2)) (xs (i + 3)) 1 (by decide +kernel)) (cwV 4 hts gL_law_X10_fine rfl rfl rfl (by decide +kernel) ⟨(Nat.le_of_ble_eq_true rfl), (Nat.le_of_ble_eq_true rfl)⟩) (pr_V (r := (RX10, TX10, 16)) hPo hKo hDo q0 10 rfl hq0) rfl rfl hl.1 rfl (lv_room (Nat.le_of_ble_eq_true rfl)) dL_law_987 ⟨(show cells + 1 ≤ 600000 by omega), (show slots + 3 ≤ 7302250 by omega)⟩) hS (fun q _ h => hFc q h) hFc (fun r_26 u t H locs ht hvm w_25 hB hz1 hk1 hS => ?_)
    refine W.widen (k := cells + 1) (n := slots + 3) (by omega) (by omega) ?_
    obtain ⟨S9, rfl⟩ : ∃ z, z = u := ⟨_, rfl⟩
    obtain ⟨hP1, hK1, hD1⟩ := hB
    rw [ht] at hP1
    have hH := lwH_o hH hFc hk1 hP1 hD1
    clear hP1 hK1 hD1
    have hJ := lwI_o hJ w_25.1 w_25.2 (by decide +kernel)
    clear hk1 hz1 hvm ht hFc
    refine lv_pop hx hb dL_law_990 rfl ?_
    refine lv_aload_n hx hb dL_law_991 rfl (lv_at hl 1 rfl) ?_
    refine lv_aload_n hx hb dL_law_992 rfl (lv_at hl 3 rfl) ?_
    refine lv_iload_n hx hb dL_law_993 rfl (lv_at hl 0 rfl) ?_
    refine lv_iconst (v := 1) hx hb dL_law_994 (by decide +kernel) ?_
    refine lv_iadd hx hb dL_law_995 ?_
    refine lv_topi (fun y_27 ey_27 => ?_)
    have hy_27 : y_27.toInt = (i : Int) + 1 := by rw [ey_27]; exact ad_i (nI_toInt (by omega)) (by decide +kernel) (by omega) (by omega)
    have ny_27 : y_27.toNatClampNeg = i + 1 := (show y_27.toInt.toNat = _ by omega)
    clear ey_27
    refine va_sld hx hb hX hbl hbA hS (vp_in_iff.mpr (by omega)) dL_law_996 ?_
    refine lv_topi (fun z_28 ez_28 => ?_)
    obtain rfl : z_28 = xs (i + 1) := ez_28.trans (by rw [ny_27])
    clear ny_27 hy_27
    refine lv_aload_n hx hb dL_law_997 rfl (lv_at hl 3 rfl) ?_
    refine lv_iload_n hx hb dL_law_998 rfl (lv_at hl 0 rfl) ?_
    refine lv_iconst (v := 2) hx hb dL_law_999 (by decide +kernel) ?_
    refine lv_iadd hx hb dL_law_1000 ?_
    refine lv_topi (fun y_29 ey_29 => ?_)
    have hy_29 : y_29.toInt = (i : Int) + 2 := by rw [ey_29]; exact ad_i (nI_toInt (by omega)) (by decide +kernel) (by omega) (by omega)
    have ny_29 : y_29.toNatClampNeg = i + 2 := (show y_29.toInt.toNat = _ by omega)
    clear ey_29
    refine va_sld hx hb hX hbl hbA hS (vp_in_iff.mpr (by omega)) dL_law_1001 ?_
    refine lv_topi (fun z_30 ez_30 => ?_)
    obtain rfl : z_30 = xs (i + 2) := ez_30.trans (by rw [ny_29])
    clear ny_29 hy_29
    refine lv_aload_n hx hb dL_law_1002 rfl (lv_at hl 3 rfl) ?_
    refine lv_iload_n hx hb dL_law_1003 rfl (lv_at hl 0 rfl) ?_
    refine lv_iconst (v := 3) hx hb dL_law_1004 (by decide +kernel) ?_
    refine lv_iadd hx hb dL_law_1005 ?_
    refine lv_topi (fun y_31 ey_31 => ?_)
    have hy_31 : y_31.toInt = (i : Int) + 3 := by rw [ey_31]; exact ad_i (nI_toInt (by omega)) (by decide +kernel) (by omega) (by omega)
    have ny_31 : y_31.toNatClampNeg = i + 3 := (show y_31.toInt.toNat = _ by omega)
    clear ey_31
    refine va_sld hx hb hX hbl hbA hS (vp_in_iff.mpr (by omega)) dL_law_1006 ?_
    refine lv_topi (fun z_32 ez_32 => ?_)
    obtain rfl : z_32 = xs (i + 3) := ez_32.trans (by rw [ny_31])
    clear ny_31 hy_31
    refine lv_aload_n hx hb dL_law_1007 rfl (lv_at hl 3 rfl) ?_
    refine lv_iload_n hx hb dL_law_1008 rfl (lv_at hl 0 rfl) ?_
    refine lv_iconst (v := 4) hx hb dL_law_1009 (by decide +kernel) ?_
    refine lv_iadd hx hb dL_law_1010 ?_
    refine lv_topi (fun y_33 ey_33 => ?_)
    have hy_33 : y_33.toInt = (i : Int) + 4 := by rw [ey_33]; exact ad_i (nI_toInt (by omega)) (by decide +kernel) (by omega) (by omega)
    have ny_33 : y_33.toNatClampNeg = i + 4 := (show y_33.toInt.toNat = _ by omega)
    clear ey_33
    refine va_sld hx hb hX hbl hbA hS (vp_in_iff.mpr (by omega)) dL_law_1011 ?_
    refine lv_topi (fun z_34 ez_34 => ?_)
    obtain rfl : z_34 = xs (i + 4) := ez_34.trans (by rw [ny_33])
    clear ny_33 hy_33
    refine lv_if_eq (tgt := 1019) hx hb dL_law_1012 (by decide +kernel) (fun c_35 => ?_) (fun c_35 => ?_)
    · refine lv_iconst (v := 0) hx hb dL_law_1019 (by decide +kernel) ?_
      obtain ⟨hI_o, to, gV, gA, hlw⟩ := id hJ
      obtain ⟨hPo, hDo, hPm, hDm, hdis⟩ := id hH
      have hFc := o_free hDm hS hA
      refine va_calli (va_runV (As := [.int (xs (i + 1)), .int (xs (i + 2)), .int (xs (i + 3)), .int 0]) (rest := []) ⟨hx, hb, hml, hown, hts⟩ (c_X11_fine l dC dI H.size g0 pq cp v fa gV gA (xs (i + 1)) (xs (i + 2)) (xs (i + 3)) 0) (cwV 4 hts gL_law_X11_fine rfl rfl rfl (by decide +kernel) ⟨(Nat.le_of_ble_eq_true rfl), (Nat.le_of_ble_eq_true rfl)⟩) (pr_V (r := (RX11, TX11, 63)) hPm hKm hDm 0 11 rfl rfl) rfl rfl hl.1 rfl (lv_room (Nat.le_of_ble_eq_true rfl)) dL_law_1020 ⟨(show cells + 1 + 0 ≤ 600000 by omega), (show slots + 3 + 0 ≤ 7302250 by omega)⟩) hS (fun q _ h => hFc q h) hFc (fun r_37 u t H locs ht hvm w_36 hB hz1 hk1 hS => ?_)
      obtain ⟨v1, fa1⟩ := u
      obtain ⟨hP1, hK1, hD1⟩ := hB
      rw [ht] at hP1
      dsimp only at hP1 hD1
      have hH := lwH_m hH hFc hk1 hP1 hD1
      clear hP1 hK1 hD1
      obtain ⟨hV1, hA1, hn1⟩ := w_36
      dsimp only at hV1 hA1 hn1
      have hJ := lwI_m hJ hV1 hA1 hn1 (by decide +kernel)
      clear hk1 hz1 hvm ht hFc
      refine lv_pop hx hb dL_law_1023 rfl ?_
      refine lv_goto (tgt := 1499) hx hb dL_law_1024 (by decide +kernel) ?_
      refine W.widen (k := cells + 4) (n := slots + 134) (by omega) (by omega) ?_
      exact K _ _ _ _ _ _ hJ hH hS hl
    · refine lv_iconst (v := 1) hx hb dL_law_1015 (by decide +kernel) ?_
      refine lv_goto (tgt := 1020) hx hb dL_law_1016 (by decide +kernel) ?_
      obtain ⟨hI_o, to, gV, gA, hlw⟩ := id hJ
      obtain ⟨hPo, hDo, hPm, hDm, hdis⟩ := id hH
      have hFc := o_free hDm hS hA
      refine va_calli (va_runV (As := [.int (xs (i + 1)), .int (xs (i + 2)), .int (xs (i + 3)), .int 1]) (rest := []) ⟨hx, hb, hml, hown, hts⟩ (c_X11_fine l dC dI H.size g0 pq cp v fa gV gA (xs (i + 1)) (xs (i + 2)) (xs (i + 3)) 1) (cwV 4 hts gL_law_X11_fine rfl rfl rfl (by decide +kernel) ⟨(Nat.le_of_ble_eq_true rfl), (Nat.le_of_ble_eq_true rfl)⟩) (pr_V (r := (RX11, TX11, 63)) hPm hKm hDm 0 11 rfl rfl) rfl rfl hl.1 rfl (lv_room (Nat.le_of_ble_eq_true rfl)) dL_law_1020 ⟨(show cells + 1 + 0 ≤ 600000 by omega), (show slots + 3 + 0 ≤ 7302250 by omega)⟩) hS (fun q _ h => hFc q h) hFc (fun r_39 u t H locs ht hvm w_38 hB hz1 hk1 hS => ?_)
      obtain ⟨v1, fa1⟩ := u
      obtain ⟨hP1, hK1, hD1⟩ := hB
      rw [ht] at hP1
      dsimp only at hP1 hD1
      have hH := lwH_m hH hFc hk1 hP1 hD1
      clear hP1 hK1 hD1
      obtain ⟨hV1, hA1, hn1⟩ := w_38
      dsimp only at hV1 hA1 hn1
      have hJ := lwI_m hJ hV1 hA1 hn1 (by decide +kernel)
      clear hk1 hz1 hvm ht hFc
      refine lv_pop hx hb dL_law_1023 rfl ?_
      refine lv_goto (tgt := 1499) hx hb dL_law_1024 (by decide +kernel) ?_
      refine W.widen (k := cells + 4) (n := slots + 134) (by omega) (by omega) ?_
      exact K _ _ _ _ _ _ hJ hH hS hl
