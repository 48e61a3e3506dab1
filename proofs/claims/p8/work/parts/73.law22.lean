theorem gw_X10_read : wsX10_read.all goodWord = true := by decide +kernel
theorem gw_X10_stands : wsX10_stands.all goodWord = true := by decide +kernel
theorem gw_X11_read : wsX11_read.all goodWord = true := by decide +kernel
theorem gw_X11_stands : wsX11_stands.all goodWord = true := by decide +kernel
theorem il_L_law_35 : ∀ w ∈ wsL_law_r35, w ∈ wsL_law := fun w h => (List.mem_append_left _ (List.mem_append_left _ (List.mem_append_left _ (List.mem_append_left _ (List.mem_append_left _ (List.mem_append_left _ (List.mem_append_left _ (List.mem_append_left _ (List.mem_append_left _ (List.mem_append_left _ (List.mem_append_left _ (List.mem_append_left _ (List.mem_append_left _ (List.mem_append_right _ (List.mem_append_right _ (List.mem_append_right _ (List.mem_append_right _ (List.mem_append_right _ (List.mem_append_right _ (List.mem_append_right _ (List.mem_append_right _ (List.mem_append_right _ (List.mem_append_right _ (List.mem_append_right _ (List.mem_append_right _ (List.mem_append_right _ (List.mem_append_right _ (List.mem_append_right _ (List.mem_append_right _ (List.mem_append_right _ (List.mem_append_right _ (List.mem_append_right _ (List.mem_append_right _ (List.mem_append_right _ (List.mem_append_right _ (List.mem_append_right _ (List.mem_append_right _ (List.mem_append_right _ (List.mem_append_right _ (List.mem_append_right _ (List.mem_append_right _ (List.mem_append_right _ (List.mem_append_right _ (List.mem_append_right _ (List.mem_append_right _ (List.mem_append_right _ (List.mem_append_right _ (List.mem_append_left _ h))))))))))))))))))))))))))))))))))))))))))))))))
theorem il_L_law_36 : ∀ w ∈ wsL_law_r36, w ∈ wsL_law := fun w h => (List.mem_append_left _ (List.mem_append_left _ (List.mem_append_left _ (List.mem_append_left _ (List.mem_append_left _ (List.mem_append_left _ (List.mem_append_left _ (List.mem_append_left _ (List.mem_append_left _ (List.mem_append_left _ (List.mem_append_left _ (List.mem_append_left _ (List.mem_append_left _ (List.mem_append_right _ (List.mem_append_right _ (List.mem_append_right _ (List.mem_append_right _ (List.mem_append_right _ (List.mem_append_right _ (List.mem_append_right _ (List.mem_append_right _ (List.mem_append_right _ (List.mem_append_right _ (List.mem_append_right _ (List.mem_append_right _ (List.mem_append_right _ (List.mem_append_right _ (List.mem_append_right _ (List.mem_append_right _ (List.mem_append_right _ (List.mem_append_right _ (List.mem_append_right _ (List.mem_append_right _ (List.mem_append_right _ (List.mem_append_right _ (List.mem_append_right _ (List.mem_append_right _ (List.mem_append_right _ (List.mem_append_right _ (List.mem_append_right _ (List.mem_append_right _ (List.mem_append_right _ (List.mem_append_right _ (List.mem_append_right _ (List.mem_append_right _ (List.mem_append_right _ (List.mem_append_right _ (List.mem_append_right _ (List.mem_append_left _ h)))))))))))))))))))))))))))))))))))))))))))))))))
set_option maxRecDepth 100000 in
theorem ggL_law_X10_read : GoodIn wsL_law wsX10_read := goodIn_sub (mmC (mmI il_L_law_35 1 rfl) (mmA (mmA (mmA (mmC (mmI il_L_law_35 2 rfl) (mmC (mmI il_L_law_35 3 rfl) (mmC (mmI il_L_law_7 4 rfl) (mmC (mmI il_L_law_16 1 rfl) (mmC (mmI il_L_law_16 2 rfl) (mmC (mmI il_L_law_16 3 rfl) (mmC (mmI il_L_law_1 2 rfl) (mmC (mmI il_L_law_16 4 rfl) (mmC (mmI il_L_law_12 3 rfl) (mmC (mmI il_L_law_1 18 rfl) (mmC (mmI il_L_law_35 4 rfl) (mmC (mmI il_L_law_35 5 rfl) (mmC (mmI il_L_law_35 6 rfl) (mmC (mmI il_L_law_34 6 rfl) (mmC (mmI il_L_law_34 7 rfl) (mmC (mmI il_L_law_7 5 rfl) (mmC (mmI il_L_law_7 6 rfl) (mmC (mmI il_L_law_7 7 rfl) (mmC (mmI il_L_law_7 8 rfl) (mmC (mmI il_L_law_2 15 rfl) mmN)))))))))))))))))))) il_L_law_58) il_L_law_47) il_L_law_56)) gw_X10_read
theorem gL_law_X10_read : GoodIn wsL_law (wsV RL 106 RX10 yX10_read wsX10_read) := goodIn_app (goodIn_sub (mmC (mmI il_L_law_34 22 rfl) (mmC (mmI il_L_law_34 23 rfl) (mmC (mmI il_L_law_35 0 rfl) (mmC (mmI il_L_law_1 2 rfl) mmN)))) (by decide +kernel)) ggL_law_X10_read
set_option maxRecDepth 100000 in
theorem ggL_law_X11_read : GoodIn wsL_law wsX11_read := goodIn_sub (mmC (mmI il_L_law_35 10 rfl) (mmA (mmC (mmI il_L_law_6 14 rfl) (mmC (mmI il_L_law_6 9 rfl) (mmC (mmI il_L_law_7 13 rfl) (mmC (mmI il_L_law_35 11 rfl) (mmC (mmI il_L_law_35 12 rfl) (mmC (mmI il_L_law_35 13 rfl) (mmC (mmI il_L_law_1 5 rfl) (mmC (mmI il_L_law_35 14 rfl) (mmC (mmI il_L_law_6 6 rfl) (mmC (mmI il_L_law_16 19 rfl) (mmC (mmI il_L_law_16 20 rfl) (mmC (mmI il_L_law_16 21 rfl) (mmC (mmI il_L_law_16 22 rfl) (mmC (mmI il_L_law_13 0 rfl) (mmC (mmI il_L_law_8 12 rfl) (mmC (mmI il_L_law_8 13 rfl) (mmC (mmI il_L_law_8 14 rfl) (mmC (mmI il_L_law_7 14 rfl) (mmC (mmI il_L_law_7 15 rfl) (mmC (mmI il_L_law_7 16 rfl) (mmC (mmI il_L_law_7 17 rfl) (mmC (mmI il_L_law_5 0 rfl) mmN)))))))))))))))))))))) il_L_law_48)) gw_X11_read
theorem gL_law_X11_read : GoodIn wsL_law (wsV RL 109 RX11 yX11_read wsX11_read) := goodIn_app (goodIn_sub (mmC (mmI il_L_law_35 7 rfl) (mmC (mmI il_L_law_35 8 rfl) (mmC (mmI il_L_law_35 9 rfl) (mmC (mmI il_L_law_1 5 rfl) mmN)))) (by decide +kernel)) ggL_law_X11_read
set_option maxRecDepth 100000 in
theorem ggL_law_X10_stands : GoodIn wsL_law wsX10_stands := goodIn_sub (mmC (mmI il_L_law_35 18 rfl) (mmA (mmA (mmA (mmA (mmA (mmA (mmA (mmA (mmA (mmC (mmI il_L_law_7 4 rfl) (mmC (mmI il_L_law_16 1 rfl) (mmC (mmI il_L_law_16 2 rfl) (mmC (mmI il_L_law_16 3 rfl) (mmC (mmI il_L_law_1 2 rfl) (mmC (mmI il_L_law_16 4 rfl) (mmC (mmI il_L_law_12 3 rfl) (mmC (mmI il_L_law_1 18 rfl) (mmC (mmI il_L_law_35 4 rfl) (mmC (mmI il_L_law_35 5 rfl) (mmC (mmI il_L_law_35 6 rfl) (mmC (mmI il_L_law_34 6 rfl) (mmC (mmI il_L_law_34 7 rfl) (mmC (mmI il_L_law_7 5 rfl) (mmC (mmI il_L_law_7 6 rfl) (mmC (mmI il_L_law_7 7 rfl) (mmC (mmI il_L_law_7 8 rfl) (mmC (mmI il_L_law_2 15 rfl) (mmC (mmI il_L_law_35 19 rfl) (mmC (mmI il_L_law_35 20 rfl) (mmC (mmI il_L_law_35 21 rfl) (mmC (mmI il_L_law_35 22 rfl) (mmC (mmI il_L_law_35 3 rfl) (mmC (mmI il_L_law_35 23 rfl) mmN)))))))))))))))))))))))) (mmA (mmC (mmI il_L_law_35 2 rfl) (mmC (mmI il_L_law_10 1 rfl) (mmC (mmI il_L_law_10 2 rfl) (mmC (mmI il_L_law_10 3 rfl) (mmC (mmI il_L_law_10 4 rfl) (mmC (mmI il_L_law_10 5 rfl) (mmC (mmI il_L_law_10 6 rfl) (mmC (mmI il_L_law_10 7 rfl) (mmC (mmI il_L_law_32 19 rfl) (mmC (mmI il_L_law_32 20 rfl) (mmC (mmI il_L_law_32 21 rfl) (mmC (mmI il_L_law_32 22 rfl) (mmC (mmI il_L_law_1 22 rfl) (mmC (mmI il_L_law_2 13 rfl) (mmC (mmI il_L_law_23 21 rfl) (mmC (mmI il_L_law_23 22 rfl) (mmC (mmI il_L_law_24 12 rfl) (mmC (mmI il_L_law_12 4 rfl) (mmC (mmI il_L_law_25 0 rfl) (mmC (mmI il_L_law_25 1 rfl) (mmC (mmI il_L_law_25 2 rfl) (mmC (mmI il_L_law_1 21 rfl) (mmC (mmI il_L_law_25 3 rfl) (mmC (mmI il_L_law_2 22 rfl) mmN)))))))))))))))))))))))) (mmA (mmC (mmI il_L_law_21 17 rfl) (mmC (mmI il_L_law_2 21 rfl) (mmC (mmI il_L_law_25 4 rfl) (mmC (mmI il_L_law_25 5 rfl) (mmC (mmI il_L_law_24 20 rfl) (mmC (mmI il_L_law_24 21 rfl) (mmC (mmI il_L_law_24 22 rfl) (mmC (mmI il_L_law_8 22 rfl) (mmC (mmI il_L_law_24 23 rfl) (mmC (mmI il_L_law_9 7 rfl) (mmC (mmI il_L_law_32 23 rfl) (mmC (mmI il_L_law_33 0 rfl) (mmC (mmI il_L_law_33 1 rfl) (mmC (mmI il_L_law_3 0 rfl) (mmC (mmI il_L_law_33 2 rfl) (mmC (mmI il_L_law_3 7 rfl) (mmC (mmI il_L_law_33 3 rfl) (mmC (mmI il_L_law_30 15 rfl) (mmC (mmI il_L_law_30 16 rfl) (mmC (mmI il_L_law_12 13 rfl) (mmC (mmI il_L_law_30 17 rfl) (mmC (mmI il_L_law_25 16 rfl) (mmC (mmI il_L_law_30 18 rfl) (mmC (mmI il_L_law_30 13 rfl) mmN)))))))))))))))))))))))) (mmA (mmC (mmI il_L_law_27 7 rfl) (mmC (mmI il_L_law_27 8 rfl) (mmC (mmI il_L_law_27 9 rfl) (mmC (mmI il_L_law_12 18 rfl) (mmC (mmI il_L_law_12 17 rfl) (mmC (mmI il_L_law_12 15 rfl) (mmC (mmI il_L_law_27 10 rfl) (mmC (mmI il_L_law_27 11 rfl) (mmC (mmI il_L_law_27 12 rfl) (mmC (mmI il_L_law_27 13 rfl) (mmC (mmI il_L_law_27 14 rfl) (mmC (mmI il_L_law_10 20 rfl) (mmC (mmI il_L_law_27 15 rfl) (mmC (mmI il_L_law_11 11 rfl) (mmC (mmI il_L_law_11 10 rfl) (mmC (mmI il_L_law_27 16 rfl) (mmC (mmI il_L_law_27 17 rfl) (mmC (mmI il_L_law_27 18 rfl) (mmC (mmI il_L_law_27 19 rfl) (mmC (mmI il_L_law_27 20 rfl) (mmC (mmI il_L_law_27 21 rfl) (mmC (mmI il_L_law_27 22 rfl) (mmC (mmI il_L_law_27 23 rfl) (mmC (mmI il_L_law_28 0 rfl) mmN)))))))))))))))))))))))) (mmA (mmC (mmI il_L_law_28 1 rfl) (mmC (mmI il_L_law_28 2 rfl) (mmC (mmI il_L_law_28 3 rfl) (mmC (mmI il_L_law_28 4 rfl) (mmC (mmI il_L_law_28 5 rfl) (mmC (mmI il_L_law_28 6 rfl) (mmC (mmI il_L_law_28 7 rfl) (mmC (mmI il_L_law_11 9 rfl) (mmC (mmI il_L_law_11 8 rfl) (mmC (mmI il_L_law_28 8 rfl) (mmC (mmI il_L_law_28 9 rfl) (mmC (mmI il_L_law_28 10 rfl) (mmC (mmI il_L_law_28 11 rfl) (mmC (mmI il_L_law_28 12 rfl) (mmC (mmI il_L_law_28 13 rfl) (mmC (mmI il_L_law_28 14 rfl) (mmC (mmI il_L_law_28 15 rfl) (mmC (mmI il_L_law_28 16 rfl) (mmC (mmI il_L_law_30 19 rfl) (mmC (mmI il_L_law_30 20 rfl) (mmC (mmI il_L_law_30 21 rfl) (mmC (mmI il_L_law_30 22 rfl) (mmC (mmI il_L_law_12 16 rfl) (mmC (mmI il_L_law_30 23 rfl) mmN)))))))))))))))))))))))) (mmA (mmC (mmI il_L_law_31 0 rfl) (mmC (mmI il_L_law_31 1 rfl) (mmC (mmI il_L_law_31 2 rfl) (mmC (mmI il_L_law_31 3 rfl) (mmC (mmI il_L_law_31 4 rfl) (mmC (mmI il_L_law_31 5 rfl) (mmC (mmI il_L_law_11 7 rfl) (mmC (mmI il_L_law_31 6 rfl) (mmC (mmI il_L_law_31 7 rfl) (mmC (mmI il_L_law_31 8 rfl) (mmC (mmI il_L_law_31 9 rfl) (mmC (mmI il_L_law_31 10 rfl) (mmC (mmI il_L_law_33 4 rfl) (mmC (mmI il_L_law_33 5 rfl) (mmC (mmI il_L_law_33 6 rfl) (mmC (mmI il_L_law_33 7 rfl) (mmC (mmI il_L_law_27 6 rfl) (mmC (mmI il_L_law_33 8 rfl) (mmC (mmI il_L_law_33 9 rfl) (mmC (mmI il_L_law_33 10 rfl) (mmC (mmI il_L_law_33 11 rfl) (mmC (mmI il_L_law_33 12 rfl) (mmC (mmI il_L_law_25 6 rfl) (mmC (mmI il_L_law_3 11 rfl) mmN)))))))))))))))))))))))) (mmC (mmI il_L_law_3 12 rfl) (mmC (mmI il_L_law_3 13 rfl) (mmC (mmI il_L_law_3 8 rfl) (mmC (mmI il_L_law_3 14 rfl) (mmC (mmI il_L_law_3 15 rfl) (mmC (mmI il_L_law_3 16 rfl) (mmC (mmI il_L_law_3 17 rfl) (mmC (mmI il_L_law_3 18 rfl) (mmC (mmI il_L_law_3 19 rfl) (mmC (mmI il_L_law_3 20 rfl) (mmC (mmI il_L_law_3 21 rfl) (mmC (mmI il_L_law_3 22 rfl) (mmC (mmI il_L_law_3 23 rfl) mmN))))))))))))))))))) il_L_law_47) il_L_law_56) il_L_law_58) il_L_law_49) il_L_law_53) il_L_law_54) il_L_law_57) il_L_law_55)) gw_X10_stands
theorem gL_law_X10_stands : GoodIn wsL_law (wsV RL 110 RX10 yX10_stands wsX10_stands) := goodIn_app (goodIn_sub (mmC (mmI il_L_law_35 15 rfl) (mmC (mmI il_L_law_35 16 rfl) (mmC (mmI il_L_law_35 17 rfl) (mmC (mmI il_L_law_1 2 rfl) mmN)))) (by decide +kernel)) ggL_law_X10_stands
set_option maxRecDepth 100000 in
theorem ggL_law_X11_stands : GoodIn wsL_law wsX11_stands := goodIn_sub (mmC (mmI il_L_law_36 3 rfl) (mmA (mmA (mmC (mmI il_L_law_7 13 rfl) (mmC (mmI il_L_law_35 11 rfl) (mmC (mmI il_L_law_35 12 rfl) (mmC (mmI il_L_law_35 13 rfl) (mmC (mmI il_L_law_1 5 rfl) (mmC (mmI il_L_law_35 14 rfl) (mmC (mmI il_L_law_6 6 rfl) (mmC (mmI il_L_law_16 19 rfl) (mmC (mmI il_L_law_16 20 rfl) (mmC (mmI il_L_law_16 21 rfl) (mmC (mmI il_L_law_16 22 rfl) (mmC (mmI il_L_law_13 0 rfl) (mmC (mmI il_L_law_8 12 rfl) (mmC (mmI il_L_law_8 13 rfl) (mmC (mmI il_L_law_8 14 rfl) (mmC (mmI il_L_law_7 14 rfl) (mmC (mmI il_L_law_7 15 rfl) (mmC (mmI il_L_law_7 16 rfl) (mmC (mmI il_L_law_7 17 rfl) (mmC (mmI il_L_law_5 0 rfl) (mmC (mmI il_L_law_36 4 rfl) (mmC (mmI il_L_law_36 5 rfl) (mmC (mmI il_L_law_36 6 rfl) (mmC (mmI il_L_law_36 7 rfl) mmN)))))))))))))))))))))))) (mmA (mmC (mmI il_L_law_6 9 rfl) (mmC (mmI il_L_law_6 10 rfl) (mmC (mmI il_L_law_6 14 rfl) (mmC (mmI il_L_law_33 18 rfl) (mmC (mmI il_L_law_33 19 rfl) (mmC (mmI il_L_law_33 20 rfl) (mmC (mmI il_L_law_33 21 rfl) (mmC (mmI il_L_law_6 1 rfl) (mmC (mmI il_L_law_5 21 rfl) (mmC (mmI il_L_law_6 16 rfl) (mmC (mmI il_L_law_5 22 rfl) (mmC (mmI il_L_law_5 23 rfl) (mmC (mmI il_L_law_5 4 rfl) (mmC (mmI il_L_law_5 20 rfl) (mmC (mmI il_L_law_29 1 rfl) (mmC (mmI il_L_law_29 2 rfl) (mmC (mmI il_L_law_29 3 rfl) (mmC (mmI il_L_law_29 4 rfl) (mmC (mmI il_L_law_6 2 rfl) (mmC (mmI il_L_law_5 10 rfl) (mmC (mmI il_L_law_29 5 rfl) (mmC (mmI il_L_law_29 6 rfl) (mmC (mmI il_L_law_29 7 rfl) (mmC (mmI il_L_law_29 8 rfl) mmN)))))))))))))))))))))))) (mmA (mmC (mmI il_L_law_13 9 rfl) (mmC (mmI il_L_law_5 11 rfl) (mmC (mmI il_L_law_5 13 rfl) (mmC (mmI il_L_law_5 12 rfl) (mmC (mmI il_L_law_29 9 rfl) (mmC (mmI il_L_law_29 10 rfl) (mmC (mmI il_L_law_29 11 rfl) (mmC (mmI il_L_law_29 12 rfl) (mmC (mmI il_L_law_29 13 rfl) (mmC (mmI il_L_law_29 14 rfl) (mmC (mmI il_L_law_29 15 rfl) (mmC (mmI il_L_law_29 16 rfl) (mmC (mmI il_L_law_29 17 rfl) (mmC (mmI il_L_law_29 18 rfl) (mmC (mmI il_L_law_29 19 rfl) (mmC (mmI il_L_law_29 20 rfl) (mmC (mmI il_L_law_29 21 rfl) (mmC (mmI il_L_law_29 22 rfl) (mmC (mmI il_L_law_29 23 rfl) (mmC (mmI il_L_law_30 0 rfl) (mmC (mmI il_L_law_26 2 rfl) (mmC (mmI il_L_law_26 3 rfl) (mmC (mmI il_L_law_26 4 rfl) (mmC (mmI il_L_law_26 5 rfl) mmN)))))))))))))))))))))))) (mmA (mmC (mmI il_L_law_30 1 rfl) (mmC (mmI il_L_law_30 2 rfl) (mmC (mmI il_L_law_30 3 rfl) (mmC (mmI il_L_law_30 4 rfl) (mmC (mmI il_L_law_26 6 rfl) (mmC (mmI il_L_law_26 7 rfl) (mmC (mmI il_L_law_26 8 rfl) (mmC (mmI il_L_law_26 9 rfl) (mmC (mmI il_L_law_5 16 rfl) (mmC (mmI il_L_law_26 10 rfl) (mmC (mmI il_L_law_26 11 rfl) (mmC (mmI il_L_law_26 12 rfl) (mmC (mmI il_L_law_26 13 rfl) (mmC (mmI il_L_law_21 22 rfl) (mmC (mmI il_L_law_5 17 rfl) (mmC (mmI il_L_law_5 18 rfl) (mmC (mmI il_L_law_22 1 rfl) (mmC (mmI il_L_law_22 2 rfl) (mmC (mmI il_L_law_22 3 rfl) (mmC (mmI il_L_law_22 4 rfl) (mmC (mmI il_L_law_22 5 rfl) (mmC (mmI il_L_law_22 6 rfl) (mmC (mmI il_L_law_22 0 rfl) (mmC (mmI il_L_law_22 7 rfl) mmN)))))))))))))))))))))))) (mmA (mmC (mmI il_L_law_21 23 rfl) (mmC (mmI il_L_law_22 8 rfl) (mmC (mmI il_L_law_22 9 rfl) (mmC (mmI il_L_law_22 10 rfl) (mmC (mmI il_L_law_22 11 rfl) (mmC (mmI il_L_law_22 12 rfl) (mmC (mmI il_L_law_22 13 rfl) (mmC (mmI il_L_law_22 14 rfl) (mmC (mmI il_L_law_22 15 rfl) (mmC (mmI il_L_law_22 16 rfl) (mmC (mmI il_L_law_22 17 rfl) (mmC (mmI il_L_law_22 18 rfl) (mmC (mmI il_L_law_6 15 rfl) (mmC (mmI il_L_law_5 19 rfl) (mmC (mmI il_L_law_22 19 rfl) (mmC (mmI il_L_law_22 20 rfl) (mmC (mmI il_L_law_22 21 rfl) (mmC (mmI il_L_law_22 22 rfl) (mmC (mmI il_L_law_22 23 rfl) (mmC (mmI il_L_law_23 0 rfl) (mmC (mmI il_L_law_23 1 rfl) (mmC (mmI il_L_law_23 2 rfl) (mmC (mmI il_L_law_23 3 rfl) (mmC (mmI il_L_law_23 4 rfl) mmN)))))))))))))))))))))))) (mmC (mmI il_L_law_23 5 rfl) (mmC (mmI il_L_law_23 6 rfl) (mmC (mmI il_L_law_23 7 rfl) (mmC (mmI il_L_law_23 8 rfl) (mmC (mmI il_L_law_23 9 rfl) (mmC (mmI il_L_law_23 10 rfl) (mmC (mmI il_L_law_23 11 rfl) (mmC (mmI il_L_law_23 12 rfl) (mmC (mmI il_L_law_23 13 rfl) (mmC (mmI il_L_law_23 14 rfl) (mmC (mmI il_L_law_23 15 rfl) (mmC (mmI il_L_law_33 22 rfl) (mmC (mmI il_L_law_33 23 rfl) (mmC (mmI il_L_law_34 0 rfl) (mmC (mmI il_L_law_34 1 rfl) mmN)))))))))))))))))))) il_L_law_48)) gw_X11_stands
theorem gL_law_X11_stands : GoodIn wsL_law (wsV RL 113 RX11 yX11_stands wsX11_stands) := goodIn_app (goodIn_sub (mmC (mmI il_L_law_36 0 rfl) (mmC (mmI il_L_law_36 1 rfl) (mmC (mmI il_L_law_36 2 rfl) (mmC (mmI il_L_law_1 5 rfl) mmN)))) (by decide +kernel)) ggL_law_X11_stands
theorem dL_law_1027 : decode cL_law 1027 = .ok (.aload_n 1, 1) := by decide +kernel
theorem dL_law_1028 : decode cL_law 1028 = .ok (.aload_n 0, 1) := by decide +kernel
theorem dL_law_1029 : decode cL_law 1029 = .ok (.iload_n 3, 1) := by decide +kernel
theorem dL_law_1030 : decode cL_law 1030 = .ok (.iconst 1, 1) := by decide +kernel
theorem dL_law_1031 : decode cL_law 1031 = .ok (.iadd, 1) := by decide +kernel
theorem dL_law_1032 : decode cL_law 1032 = .ok (.iaload, 1) := by decide +kernel
theorem dL_law_1033 : decode cL_law 1033 = .ok (.aload_n 0, 1) := by decide +kernel
theorem dL_law_1034 : decode cL_law 1034 = .ok (.iload_n 3, 1) := by decide +kernel
theorem dL_law_1035 : decode cL_law 1035 = .ok (.iconst 2, 1) := by decide +kernel
theorem dL_law_1036 : decode cL_law 1036 = .ok (.iadd, 1) := by decide +kernel
theorem dL_law_1037 : decode cL_law 1037 = .ok (.iaload, 1) := by decide +kernel
theorem dL_law_1038 : decode cL_law 1038 = .ok (.invokevirtual 106, 3) := by decide +kernel
theorem dL_law_1041 : decode cL_law 1041 = .ok (.pop, 1) := by decide +kernel
theorem dL_law_1042 : decode cL_law 1042 = .ok (.aload_n 2, 1) := by decide +kernel
theorem dL_law_1043 : decode cL_law 1043 = .ok (.aload_n 0, 1) := by decide +kernel
theorem dL_law_1044 : decode cL_law 1044 = .ok (.iload_n 3, 1) := by decide +kernel
theorem dL_law_1045 : decode cL_law 1045 = .ok (.iconst 1, 1) := by decide +kernel
theorem dL_law_1046 : decode cL_law 1046 = .ok (.iadd, 1) := by decide +kernel
theorem dL_law_1047 : decode cL_law 1047 = .ok (.iaload, 1) := by decide +kernel
theorem dL_law_1048 : decode cL_law 1048 = .ok (.aload_n 0, 1) := by decide +kernel
theorem dL_law_1049 : decode cL_law 1049 = .ok (.iload_n 3, 1) := by decide +kernel
theorem dL_law_1050 : decode cL_law 1050 = .ok (.iconst 2, 1) := by decide +kernel
theorem dL_law_1051 : decode cL_law 1051 = .ok (.iadd, 1) := by decide +kernel
theorem dL_law_1052 : decode cL_law 1052 = .ok (.iaload, 1) := by decide +kernel
theorem dL_law_1053 : decode cL_law 1053 = .ok (.invokevirtual 109, 3) := by decide +kernel
theorem dL_law_1056 : decode cL_law 1056 = .ok (.pop, 1) := by decide +kernel
theorem dL_law_1057 : decode cL_law 1057 = .ok (.goto 442, 3) := by decide +kernel
theorem dL_law_1060 : decode cL_law 1060 = .ok (.aload_n 1, 1) := by decide +kernel
theorem dL_law_1061 : decode cL_law 1061 = .ok (.aload_n 0, 1) := by decide +kernel
theorem dL_law_1062 : decode cL_law 1062 = .ok (.iload_n 3, 1) := by decide +kernel
theorem dL_law_1063 : decode cL_law 1063 = .ok (.iconst 1, 1) := by decide +kernel
theorem dL_law_1064 : decode cL_law 1064 = .ok (.iadd, 1) := by decide +kernel
theorem dL_law_1065 : decode cL_law 1065 = .ok (.iaload, 1) := by decide +kernel
theorem dL_law_1066 : decode cL_law 1066 = .ok (.aload_n 0, 1) := by decide +kernel
theorem dL_law_1067 : decode cL_law 1067 = .ok (.iload_n 3, 1) := by decide +kernel
theorem dL_law_1068 : decode cL_law 1068 = .ok (.iconst 2, 1) := by decide +kernel
theorem dL_law_1069 : decode cL_law 1069 = .ok (.iadd, 1) := by decide +kernel
theorem dL_law_1070 : decode cL_law 1070 = .ok (.iaload, 1) := by decide +kernel
theorem dL_law_1071 : decode cL_law 1071 = .ok (.aload_n 0, 1) := by decide +kernel
theorem dL_law_1072 : decode cL_law 1072 = .ok (.iload_n 3, 1) := by decide +kernel
theorem dL_law_1073 : decode cL_law 1073 = .ok (.iconst 3, 1) := by decide +kernel
theorem dL_law_1074 : decode cL_law 1074 = .ok (.iadd, 1) := by decide +kernel
theorem dL_law_1075 : decode cL_law 1075 = .ok (.iaload, 1) := by decide +kernel
theorem dL_law_1076 : decode cL_law 1076 = .ok (.invokevirtual 110, 3) := by decide +kernel
theorem dL_law_1079 : decode cL_law 1079 = .ok (.pop, 1) := by decide +kernel
theorem dL_law_1080 : decode cL_law 1080 = .ok (.aload_n 2, 1) := by decide +kernel
theorem dL_law_1081 : decode cL_law 1081 = .ok (.aload_n 0, 1) := by decide +kernel
theorem dL_law_1082 : decode cL_law 1082 = .ok (.iload_n 3, 1) := by decide +kernel
theorem dL_law_1083 : decode cL_law 1083 = .ok (.iconst 1, 1) := by decide +kernel
theorem dL_law_1084 : decode cL_law 1084 = .ok (.iadd, 1) := by decide +kernel
theorem dL_law_1085 : decode cL_law 1085 = .ok (.iaload, 1) := by decide +kernel
theorem dL_law_1086 : decode cL_law 1086 = .ok (.aload_n 0, 1) := by decide +kernel
theorem dL_law_1087 : decode cL_law 1087 = .ok (.iload_n 3, 1) := by decide +kernel
theorem dL_law_1088 : decode cL_law 1088 = .ok (.iconst 2, 1) := by decide +kernel
theorem dL_law_1089 : decode cL_law 1089 = .ok (.iadd, 1) := by decide +kernel
theorem dL_law_1090 : decode cL_law 1090 = .ok (.iaload, 1) := by decide +kernel
theorem dL_law_1091 : decode cL_law 1091 = .ok (.aload_n 0, 1) := by decide +kernel
theorem dL_law_1092 : decode cL_law 1092 = .ok (.iload_n 3, 1) := by decide +kernel
theorem dL_law_1093 : decode cL_law 1093 = .ok (.iconst 3, 1) := by decide +kernel
theorem dL_law_1094 : decode cL_law 1094 = .ok (.iadd, 1) := by decide +kernel
theorem dL_law_1095 : decode cL_law 1095 = .ok (.iaload, 1) := by decide +kernel
theorem dL_law_1096 : decode cL_law 1096 = .ok (.invokevirtual 113, 3) := by decide +kernel
theorem dL_law_1099 : decode cL_law 1099 = .ok (.pop, 1) := by decide +kernel
theorem dL_law_1100 : decode cL_law 1100 = .ok (.goto 399, 3) := by decide +kernel


set_option maxHeartbeats 4000000 in
set_option maxRecDepth 100000 in
theorem lc_21 {p : Program} {l : Launch} {e : Env} {s : State} {m : MethodId} {below : List Frame} {meth : Method} {c : Code} {b L : Nat} {xs : Nat → Int32} {A : Nat → Prop} {dC : Nat → ClassId} {dI : Nat → Nat → Nat} {tL tS tG h0 g0 : Nat} {pq : Nat → Nat} {cq cp : Nat → ClassId} (C0 : lw_At p s m meth c b L xs) (hL : L ≤ 3072) (hA : ∀ q : Nat, s.heap.size ≤ q → A q) (hAq : ∀ q, A q → s.heap.size ≤ q) (hZ : stO A tL tS tG s s.heap) (hKo : va_K (dC, dI) vwCl (oT cq) s) (hKm : va_K (dC, dI) vwCl (mT cp) s) {S : oS} {v : Nat → Int32} {fa : Nat → Nat → Int32} {H : Heap} {locs : List Loc} {i cells slots : Nat} (hi : i + 6 ≤ L) (hcl : cells ≤ 500000) (hsl : slots ≤ 7000000) (hJ : lwI S h0 v fa) (hH : lwH (dC, dI) A cq cp g0 pq S v fa H) (hS : va_S A s.heap H locs) {ls : Array Slot} (hl : lv_has ls 4 [(3, .int (nI i)), (2, .ref g0), (1, .ref h0), (0, .ref b)]) (K : (∀ (S1 : oS) (v1 : Nat → Int32) (fa1 : Nat → Nat → Int32) (H1 : Heap) (locs1 : List Loc) (ls1 : Array Slot), lwI S1 h0 v1 fa1 → lwH (dC, dI) A cq cp g0 pq S1 v1 fa1 H1 → va_S A s.heap H1 locs1 → lv_has ls1 4 [(3, .int (nI i)), (2, .ref g0), (1, .ref h0), (0, .ref b)] → W p l e room_1 s m #[Value.ref b] below meth c H1 locs1 (cells + 4) (slots + 134) (lw_Z below #[Value.ref b] s) (F0 m 1499 ls1 []))) : W p l e room_1 s m #[Value.ref b] below meth c H locs cells slots (lw_Z below #[Value.ref b] s) (F0 m 1027 ls []) := by
  obtain ⟨hx, hb, hr, hml, hown, hts, hX, hbl, hlocks, hgv⟩ := id C0
  have hts := fun w h => hts w (wsL_law_in w h)
  have hown : s.vm.findClass RL = some m.cls := hown
  have hbA : ¬ A b := fun h => Nat.not_le.mpr hbl (hAq b h)
  refine lv_aload_n hx hb dL_law_1027 rfl (lv_at hl 2 rfl) ?_
  refine lv_aload_n hx hb dL_law_1028 rfl (lv_at hl 3 rfl) ?_
  refine lv_iload_n hx hb dL_law_1029 rfl (lv_at hl 0 rfl) ?_
  refine lv_iconst (v := 1) hx hb dL_law_1030 (by decide +kernel) ?_
  refine lv_iadd hx hb dL_law_1031 ?_
  refine lv_topi (fun y_1 ey_1 => ?_)
  have hy_1 : y_1.toInt = (i : Int) + 1 := by rw [ey_1]; exact ad_i (nI_toInt (by omega)) (by decide +kernel) (by omega) (by omega)
  have ny_1 : y_1.toNatClampNeg = i + 1 := (show y_1.toInt.toNat = _ by omega)
  clear ey_1
  refine va_sld hx hb hX hbl hbA hS (vp_in_iff.mpr (by omega)) dL_law_1032 ?_
  refine lv_topi (fun z_2 ez_2 => ?_)
  obtain rfl : z_2 = xs (i + 1) := ez_2.trans (by rw [ny_1])
  clear ny_1 hy_1
  refine lv_aload_n hx hb dL_law_1033 rfl (lv_at hl 3 rfl) ?_
  refine lv_iload_n hx hb dL_law_1034 rfl (lv_at hl 0 rfl) ?_
  refine lv_iconst (v := 2) hx hb dL_law_1035 (by decide +kernel) ?_
  refine lv_iadd hx hb dL_law_1036 ?_
  refine lv_topi (fun y_3 ey_3 => ?_)
  have hy_3 : y_3.toInt = (i : Int) + 2 := by rw [ey_3]; exact ad_i (nI_toInt (by omega)) (by decide +kernel) (by omega) (by omega)
  have ny_3 : y_3.toNatClampNeg = i + 2 := (show y_3.toInt.toNat = _ by omega)
  clear ey_3
  refine va_sld hx hb hX hbl hbA hS (vp_in_iff.mpr (by omega)) dL_law_1037 ?_
  refine lv_topi (fun z_4 ez_4 => ?_)
  obtain rfl : z_4 = xs (i + 2) := ez_4.trans (by rw [ny_3])
  clear ny_3 hy_3
  obtain ⟨hI_o, to, gV, gA, hlw⟩ := id hJ
  obtain ⟨hPo, hDo, hPm, hDm, hdis⟩ := id hH
  have hFc := o_free hDo hS hA
  obtain ⟨q0, hq0⟩ := og (cq := cq) to.1 (oE_10 to.2)
  refine va_calli (va_runV (As := [.int (xs (i + 1)), .int (xs (i + 2))]) (rest := []) ⟨hx, hb, hml, hown, hts⟩ (c_X10_read l dC dI H.size cq S hI_o h0 to (xs (i + 1)) (xs (i + 2))) (cwV 2 hts gL_law_X10_read rfl rfl rfl (by decide +kernel) ⟨(Nat.le_of_ble_eq_true rfl), (Nat.le_of_ble_eq_true rfl)⟩) (pr_V (r := (RX10, TX10, 16)) hPo hKo hDo q0 10 rfl hq0) rfl rfl hl.1 rfl (lv_room (Nat.le_of_ble_eq_true rfl)) dL_law_1038 ⟨(show cells + 0 ≤ 600000 by omega), (show slots + 0 ≤ 7302250 by omega)⟩) hS (fun q _ h => hFc q h) hFc (fun r_6 u t H locs ht hvm w_5 hB hz1 hk1 hS => ?_)
  obtain ⟨S9, rfl⟩ : ∃ z, z = u := ⟨_, rfl⟩
  obtain ⟨hP1, hK1, hD1⟩ := hB
  rw [ht] at hP1
  have hH := lwH_o hH hFc hk1 hP1 hD1
  clear hP1 hK1 hD1
  have hJ := lwI_o hJ w_5.1 w_5.2 (by decide +kernel)
  clear hk1 hz1 hvm ht hFc
  refine lv_pop hx hb dL_law_1041 rfl ?_
  refine lv_aload_n hx hb dL_law_1042 rfl (lv_at hl 1 rfl) ?_
  refine lv_aload_n hx hb dL_law_1043 rfl (lv_at hl 3 rfl) ?_
  refine lv_iload_n hx hb dL_law_1044 rfl (lv_at hl 0 rfl) ?_
  refine lv_iconst (v := 1) hx hb dL_law_1045 (by decide +kernel) ?_
  refine lv_iadd hx hb dL_law_1046 ?_
  refine lv_topi (fun y_7 ey_7 => ?_)
  have hy_7 : y_7.toInt = (i : Int) + 1 := by rw [ey_7]; exact ad_i (nI_toInt (by omega)) (by decide +kernel) (by omega) (by omega)
  have ny_7 : y_7.toNatClampNeg = i + 1 := (show y_7.toInt.toNat = _ by omega)
  clear ey_7
  refine va_sld hx hb hX hbl hbA hS (vp_in_iff.mpr (by omega)) dL_law_1047 ?_
  refine lv_topi (fun z_8 ez_8 => ?_)
  obtain rfl : z_8 = xs (i + 1) := ez_8.trans (by rw [ny_7])
  clear ny_7 hy_7
  refine lv_aload_n hx hb dL_law_1048 rfl (lv_at hl 3 rfl) ?_
  refine lv_iload_n hx hb dL_law_1049 rfl (lv_at hl 0 rfl) ?_
  refine lv_iconst (v := 2) hx hb dL_law_1050 (by decide +kernel) ?_
  refine lv_iadd hx hb dL_law_1051 ?_
  refine lv_topi (fun y_9 ey_9 => ?_)
  have hy_9 : y_9.toInt = (i : Int) + 2 := by rw [ey_9]; exact ad_i (nI_toInt (by omega)) (by decide +kernel) (by omega) (by omega)
  have ny_9 : y_9.toNatClampNeg = i + 2 := (show y_9.toInt.toNat = _ by omega)
  clear ey_9
  refine va_sld hx hb hX hbl hbA hS (vp_in_iff.mpr (by omega)) dL_law_1052 ?_
  refine lv_topi (fun z_10 ez_10 => ?_)
  obtain rfl : z_10 = xs (i + 2) := ez_10.trans (by rw [ny_9])
  clear ny_9 hy_9
  obtain ⟨hI_o, to, gV, gA, hlw⟩ := id hJ
  obtain ⟨hPo, hDo, hPm, hDm, hdis⟩ := id hH
  have hFc := o_free hDm hS hA
  refine va_calli (va_runV (As := [.int (xs (i + 1)), .int (xs (i + 2))]) (rest := []) ⟨hx, hb, hml, hown, hts⟩ (c_X11_read l dC dI H.size g0 pq cp v fa gV gA (xs (i + 1)) (xs (i + 2))) (cwV 2 hts gL_law_X11_read rfl rfl rfl (by decide +kernel) ⟨(Nat.le_of_ble_eq_true rfl), (Nat.le_of_ble_eq_true rfl)⟩) (pr_V (r := (RX11, TX11, 63)) hPm hKm hDm 0 11 rfl rfl) rfl rfl hl.1 rfl (lv_room (Nat.le_of_ble_eq_true rfl)) dL_law_1053 ⟨(show cells + 0 ≤ 600000 by omega), (show slots + 0 ≤ 7302250 by omega)⟩) hS (fun q _ h => hFc q h) hFc (fun r_12 u t H locs ht hvm w_11 hB hz1 hk1 hS => ?_)
  obtain ⟨v1, fa1⟩ := u
  obtain ⟨hP1, hK1, hD1⟩ := hB
  rw [ht] at hP1
  dsimp only at hP1 hD1
  have hH := lwH_m hH hFc hk1 hP1 hD1
  clear hP1 hK1 hD1
  obtain ⟨hV1, hA1, hn1⟩ := w_11
  dsimp only at hV1 hA1 hn1
  have hJ := lwI_m hJ hV1 hA1 hn1 (by decide +kernel)
  clear hk1 hz1 hvm ht hFc
  refine lv_pop hx hb dL_law_1056 rfl ?_
  refine lv_goto (tgt := 1499) hx hb dL_law_1057 (by decide +kernel) ?_
  refine W.widen (k := cells + 4) (n := slots + 134) (by omega) (by omega) ?_
  exact K _ _ _ _ _ _ hJ hH hS hl
set_option maxHeartbeats 4000000 in
set_option maxRecDepth 100000 in
theorem lc_22 {p : Program} {l : Launch} {e : Env} {s : State} {m : MethodId} {below : List Frame} {meth : Method} {c : Code} {b L : Nat} {xs : Nat → Int32} {A : Nat → Prop} {dC : Nat → ClassId} {dI : Nat → Nat → Nat} {tL tS tG h0 g0 : Nat} {pq : Nat → Nat} {cq cp : Nat → ClassId} (C0 : lw_At p s m meth c b L xs) (hL : L ≤ 3072) (hA : ∀ q : Nat, s.heap.size ≤ q → A q) (hAq : ∀ q, A q → s.heap.size ≤ q) (hZ : stO A tL tS tG s s.heap) (hKo : va_K (dC, dI) vwCl (oT cq) s) (hKm : va_K (dC, dI) vwCl (mT cp) s) {S : oS} {v : Nat → Int32} {fa : Nat → Nat → Int32} {H : Heap} {locs : List Loc} {i cells slots : Nat} (hi : i + 6 ≤ L) (hcl : cells ≤ 500000) (hsl : slots ≤ 7000000) (hJ : lwI S h0 v fa) (hH : lwH (dC, dI) A cq cp g0 pq S v fa H) (hS : va_S A s.heap H locs) {ls : Array Slot} (hl : lv_has ls 4 [(3, .int (nI i)), (2, .ref g0), (1, .ref h0), (0, .ref b)]) (K : (∀ (S1 : oS) (v1 : Nat → Int32) (fa1 : Nat → Nat → Int32) (H1 : Heap) (locs1 : List Loc) (ls1 : Array Slot), lwI S1 h0 v1 fa1 → lwH (dC, dI) A cq cp g0 pq S1 v1 fa1 H1 → va_S A s.heap H1 locs1 → lv_has ls1 4 [(3, .int (nI i)), (2, .ref g0), (1, .ref h0), (0, .ref b)] → W p l e room_1 s m #[Value.ref b] below meth c H1 locs1 (cells + 4) (slots + 134) (lw_Z below #[Value.ref b] s) (F0 m 1499 ls1 []))) : W p l e room_1 s m #[Value.ref b] below meth c H locs cells slots (lw_Z below #[Value.ref b] s) (F0 m 1060 ls []) := by
  obtain ⟨hx, hb, hr, hml, hown, hts, hX, hbl, hlocks, hgv⟩ := id C0
  have hts := fun w h => hts w (wsL_law_in w h)
  have hown : s.vm.findClass RL = some m.cls := hown
  have hbA : ¬ A b := fun h => Nat.not_le.mpr hbl (hAq b h)
  refine lv_aload_n hx hb dL_law_1060 rfl (lv_at hl 2 rfl) ?_
  refine lv_aload_n hx hb dL_law_1061 rfl (lv_at hl 3 rfl) ?_
  refine lv_iload_n hx hb dL_law_1062 rfl (lv_at hl 0 rfl) ?_
  refine lv_iconst (v := 1) hx hb dL_law_1063 (by decide +kernel) ?_
  refine lv_iadd hx hb dL_law_1064 ?_
  refine lv_topi (fun y_1 ey_1 => ?_)
  have hy_1 : y_1.toInt = (i : Int) + 1 := by rw [ey_1]; exact ad_i (nI_toInt (by omega)) (by decide +kernel) (by omega) (by omega)
  have ny_1 : y_1.toNatClampNeg = i + 1 := (show y_1.toInt.toNat = _ by omega)
  clear ey_1
  refine va_sld hx hb hX hbl hbA hS (vp_in_iff.mpr (by omega)) dL_law_1065 ?_
  refine lv_topi (fun z_2 ez_2 => ?_)
  obtain rfl : z_2 = xs (i + 1) := ez_2.trans (by rw [ny_1])
  clear ny_1 hy_1
  refine lv_aload_n hx hb dL_law_1066 rfl (lv_at hl 3 rfl) ?_
  refine lv_iload_n hx hb dL_law_1067 rfl (lv_at hl 0 rfl) ?_
  refine lv_iconst (v := 2) hx hb dL_law_1068 (by decide +kernel) ?_
  refine lv_iadd hx hb dL_law_1069 ?_
  refine lv_topi (fun y_3 ey_3 => ?_)
  have hy_3 : y_3.toInt = (i : Int) + 2 := by rw [ey_3]; exact ad_i (nI_toInt (by omega)) (by decide +kernel) (by omega) (by omega)
  have ny_3 : y_3.toNatClampNeg = i + 2 := (show y_3.toInt.toNat = _ by omega)
  clear ey_3
  refine va_sld hx hb hX hbl hbA hS (vp_in_iff.mpr (by omega)) dL_law_1070 ?_
  refine lv_topi (fun z_4 ez_4 => ?_)
  obtain rfl : z_4 = xs (i + 2) := ez_4.trans (by rw [ny_3])
  clear ny_3 hy_3
  refine lv_aload_n hx hb dL_law_1071 rfl (lv_at hl 3 rfl) ?_
  refine lv_iload_n hx hb dL_law_1072 rfl (lv_at hl 0 rfl) ?_
  refine lv_iconst (v := 3) hx hb dL_law_1073 (by decide +kernel) ?_
  refine lv_iadd hx hb dL_law_1074 ?_
  refine lv_topi (fun y_5 ey_5 => ?_)
  have hy_5 : y_5.toInt = (i : Int) + 3 := by rw [ey_5]; exact ad_i (nI_toInt (by omega)) (by decide +kernel) (by omega) (by omega)
  have ny_5 : y_5.toNatClampNeg = i + 3 := (show y_5.toInt.toNat = _ by omega)
  clear ey_5
  refine va_sld hx hb hX hbl hbA hS (vp_in_iff.mpr (by omega)) dL_law_1075 ?_
  refine lv_topi (fun z_6 ez_6 => ?_)
  obtain rfl : z_6 = xs (i + 3) := ez_6.trans (by rw [ny_5])
  clear ny_5 hy_5
  obtain ⟨hI_o, to, gV, gA, hlw⟩ := id hJ
  obtain ⟨hPo, hDo, hPm, hDm, hdis⟩ := id hH
  have hFc := o_free hDo hS hA
  obtain ⟨q0, hq0⟩ := og (cq := cq) to.1 (oE_10 to.2)
  refine va_calli (va_runV (As := [.int (xs (i + 1)), .int (xs (i + 2)), .int (xs (i + 3))]) (rest := []) ⟨hx, hb, hml, hown, hts⟩ (c_X10_stands l dC dI H.size cq S hI_o h0 to (xs (i + 1)) (xs (i + 2)) (xs (i + 3))) (cwV 3 hts gL_law_X10_stands rfl rfl rfl (by decide +kernel) ⟨(Nat.le_of_ble_eq_true rfl), (Nat.le_of_ble_eq_true rfl)⟩) (pr_V (r := (RX10, TX10, 16)) hPo hKo hDo q0 10 rfl hq0) rfl rfl hl.1 rfl (lv_room (Nat.le_of_ble_eq_true rfl)) dL_law_1076 ⟨(show cells + 0 ≤ 600000 by omega), (show slots + 0 ≤ 7302250 by omega)⟩) hS (fun q _ h => hFc q h) hFc (fun r_8 u t H locs ht hvm w_7 hB hz1 hk1 hS => ?_)
  obtain ⟨S9, rfl⟩ : ∃ z, z = u := ⟨_, rfl⟩
  obtain ⟨hP1, hK1, hD1⟩ := hB
  rw [ht] at hP1
  have hH := lwH_o hH hFc hk1 hP1 hD1
  clear hP1 hK1 hD1
  have hJ := lwI_o hJ w_7.1 w_7.2 (by decide +kernel)
  clear hk1 hz1 hvm ht hFc
  refine lv_pop hx hb dL_law_1079 rfl ?_
  refine lv_aload_n hx hb dL_law_1080 rfl (lv_at hl 1 rfl) ?_
  refine lv_aload_n hx hb dL_law_1081 rfl (lv_at hl 3 rfl) ?_
  refine lv_iload_n hx hb dL_law_1082 rfl (lv_at hl 0 rfl) ?_
  refine lv_iconst (v := 1) hx hb dL_law_1083 (by decide +kernel) ?_
  refine lv_iadd hx hb dL_law_1084 ?_
  refine lv_topi (fun y_9 ey_9 => ?_)
  have hy_9 : y_9.toInt = (i : Int) + 1 := by rw [ey_9]; exact ad_i (nI_toInt (by omega)) (by decide +kernel) (by omega) (by omega)
  have ny_9 : y_9.toNatClampNeg = i + 1 := (show y_9.toInt.toNat = _ by omega)
  clear ey_9
  refine va_sld hx hb hX hbl hbA hS (vp_in_iff.mpr (by omega)) dL_law_1085 ?_
  refine lv_topi (fun z_10 ez_10 => ?_)
  obtain rfl : z_10 = xs (i + 1) := ez_10.trans (by rw [ny_9])
  clear ny_9 hy_9
  refine lv_aload_n hx hb dL_law_1086 rfl (lv_at hl 3 rfl) ?_
  refine lv_iload_n hx hb dL_law_1087 rfl (lv_at hl 0 rfl) ?_
  refine lv_iconst (v := 2) hx hb dL_law_1088 (by decide +kernel) ?_
  refine lv_iadd hx hb dL_law_1089 ?_
  refine lv_topi (fun y_11 ey_11 => ?_)
  have hy_11 : y_11.toInt = (i : Int) + 2 := by rw [ey_11]; exact ad_i (nI_toInt (by omega)) (by decide +kernel) (by omega) (by omega)
  have ny_11 : y_11.toNatClampNeg = i + 2 := (show y_11.toInt.toNat = _ by omega)
  clear ey_11
  refine va_sld hx hb hX hbl hbA hS (vp_in_iff.mpr (by omega)) dL_law_1090 ?_
  refine lv_topi (fun z_12 ez_12 => ?_)
  obtain rfl : z_12 = xs (i + 2) := ez_12.trans (by rw [ny_11])
  clear ny_11 hy_11
  refine lv_aload_n hx hb dL_law_1091 rfl (lv_at hl 3 rfl) ?_
  refine lv_iload_n hx hb dL_law_1092 rfl (lv_at hl 0 rfl) ?_
  refine lv_iconst (v := 3) hx hb dL_law_1093 (by decide +kernel) ?_
  refine lv_iadd hx hb dL_law_1094 ?_
  refine lv_topi (fun y_13 ey_13 => ?_)
  have hy_13 : y_13.toInt = (i : Int) + 3 := by rw [ey_13]; exact ad_i (nI_toInt (by omega)) (by decide +kernel) (by omega) (by omega)
  have ny_13 : y_13.toNatClampNeg = i + 3 := (show y_13.toInt.toNat = _ by omega)
  clear ey_13
  refine va_sld hx hb hX hbl hbA hS (vp_in_iff.mpr (by omega)) dL_law_1095 ?_
  refine lv_topi (fun z_14 ez_14 => ?_)
  obtain rfl : z_14 = xs (i + 3) := ez_14.trans (by rw [ny_13])
  clear ny_13 hy_13
  obtain ⟨hI_o, to, gV, gA, hlw⟩ := id hJ
  obtain ⟨hPo, hDo, hPm, hDm, hdis⟩ := id hH
  have hFc := o_free hDm hS hA
  refine va_calli (va_runV (As := [.int (xs (i + 1)), .int (xs (i + 2)), .int (xs (i + 3))]) (rest := []) ⟨hx, hb, hml, hown, hts⟩ (c_X11_stands l dC dI H.size g0 pq cp v fa gV gA (xs (i + 1)) (xs (i + 2)) (xs (i + 3))) (cwV 3 hts gL_law_X11_stands rfl rfl rfl (by decide +kernel) ⟨(Nat.le_of_ble_eq_true rfl), (Nat.le_of_ble_eq_true rfl)⟩) (pr_V (r := (RX11, TX11, 63)) hPm hKm hDm 0 11 rfl rfl) rfl rfl hl.1 rfl (lv_room (Nat.le_of_ble_eq_true rfl)) dL_law_1096 ⟨(show cells + 0 ≤ 600000 by omega), (show slots + 0 ≤ 7302250 by omega)⟩) hS (fun q _ h => hFc q h) hFc (fun r_16 u t H locs ht hvm w_15 hB hz1 hk1 hS => ?_)
  obtain ⟨v1, fa1⟩ := u
  obtain ⟨hP1, hK1, hD1⟩ := hB
  rw [ht] at hP1
  dsimp only at hP1 hD1
  have hH := lwH_m hH hFc hk1 hP1 hD1
  clear hP1 hK1 hD1
  obtain ⟨hV1, hA1, hn1⟩ := w_15
  dsimp only at hV1 hA1 hn1
  have hJ := lwI_m hJ hV1 hA1 hn1 (by decide +kernel)
  clear hk1 hz1 hvm ht hFc
  refine lv_pop hx hb dL_law_1099 rfl ?_
  refine lv_goto (tgt := 1499) hx hb dL_law_1100 (by decide +kernel) ?_
  refine W.widen (k := cells + 4) (n := slots + 134) (by omega) (by omega) ?_
  exact K _ _ _ _ _ _ hJ hH hS hl
