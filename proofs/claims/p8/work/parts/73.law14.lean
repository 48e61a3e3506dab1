theorem gw_X10_sign : wsX10_sign.all goodWord = true := by decide +kernel
theorem gw_X10_off : wsX10_off.all goodWord = true := by decide +kernel
theorem gw_X11_sign_ : wsX11_sign_.all goodWord = true := by decide +kernel
theorem gw_X11_off : wsX11_off.all goodWord = true := by decide +kernel
theorem il_L_law_24 : ∀ w ∈ wsL_law_r24, w ∈ wsL_law := fun w h => (List.mem_append_left _ (List.mem_append_left _ (List.mem_append_left _ (List.mem_append_left _ (List.mem_append_left _ (List.mem_append_left _ (List.mem_append_left _ (List.mem_append_left _ (List.mem_append_left _ (List.mem_append_left _ (List.mem_append_left _ (List.mem_append_left _ (List.mem_append_left _ (List.mem_append_right _ (List.mem_append_right _ (List.mem_append_right _ (List.mem_append_right _ (List.mem_append_right _ (List.mem_append_right _ (List.mem_append_right _ (List.mem_append_right _ (List.mem_append_right _ (List.mem_append_right _ (List.mem_append_right _ (List.mem_append_right _ (List.mem_append_right _ (List.mem_append_right _ (List.mem_append_right _ (List.mem_append_right _ (List.mem_append_right _ (List.mem_append_right _ (List.mem_append_right _ (List.mem_append_right _ (List.mem_append_right _ (List.mem_append_right _ (List.mem_append_right _ (List.mem_append_left _ h)))))))))))))))))))))))))))))))))))))
theorem il_L_law_25 : ∀ w ∈ wsL_law_r25, w ∈ wsL_law := fun w h => (List.mem_append_left _ (List.mem_append_left _ (List.mem_append_left _ (List.mem_append_left _ (List.mem_append_left _ (List.mem_append_left _ (List.mem_append_left _ (List.mem_append_left _ (List.mem_append_left _ (List.mem_append_left _ (List.mem_append_left _ (List.mem_append_left _ (List.mem_append_left _ (List.mem_append_right _ (List.mem_append_right _ (List.mem_append_right _ (List.mem_append_right _ (List.mem_append_right _ (List.mem_append_right _ (List.mem_append_right _ (List.mem_append_right _ (List.mem_append_right _ (List.mem_append_right _ (List.mem_append_right _ (List.mem_append_right _ (List.mem_append_right _ (List.mem_append_right _ (List.mem_append_right _ (List.mem_append_right _ (List.mem_append_right _ (List.mem_append_right _ (List.mem_append_right _ (List.mem_append_right _ (List.mem_append_right _ (List.mem_append_right _ (List.mem_append_right _ (List.mem_append_right _ (List.mem_append_left _ h))))))))))))))))))))))))))))))))))))))
theorem il_L_law_26 : ∀ w ∈ wsL_law_r26, w ∈ wsL_law := fun w h => (List.mem_append_left _ (List.mem_append_left _ (List.mem_append_left _ (List.mem_append_left _ (List.mem_append_left _ (List.mem_append_left _ (List.mem_append_left _ (List.mem_append_left _ (List.mem_append_left _ (List.mem_append_left _ (List.mem_append_left _ (List.mem_append_left _ (List.mem_append_left _ (List.mem_append_right _ (List.mem_append_right _ (List.mem_append_right _ (List.mem_append_right _ (List.mem_append_right _ (List.mem_append_right _ (List.mem_append_right _ (List.mem_append_right _ (List.mem_append_right _ (List.mem_append_right _ (List.mem_append_right _ (List.mem_append_right _ (List.mem_append_right _ (List.mem_append_right _ (List.mem_append_right _ (List.mem_append_right _ (List.mem_append_right _ (List.mem_append_right _ (List.mem_append_right _ (List.mem_append_right _ (List.mem_append_right _ (List.mem_append_right _ (List.mem_append_right _ (List.mem_append_right _ (List.mem_append_right _ (List.mem_append_left _ h)))))))))))))))))))))))))))))))))))))))
set_option maxRecDepth 100000 in
theorem ggL_law_X10_sign : GoodIn wsL_law wsX10_sign := goodIn_sub (mmC (mmI il_L_law_23 19 rfl) (mmA (mmA (mmA (mmA (mmA (mmA (mmA (mmC (mmI il_L_law_12 3 rfl) (mmC (mmI il_L_law_12 5 rfl) (mmC (mmI il_L_law_12 2 rfl) (mmC (mmI il_L_law_1 17 rfl) (mmC (mmI il_L_law_23 20 rfl) (mmC (mmI il_L_law_12 13 rfl) (mmC (mmI il_L_law_7 4 rfl) (mmC (mmI il_L_law_23 21 rfl) (mmC (mmI il_L_law_23 22 rfl) (mmC (mmI il_L_law_1 18 rfl) (mmC (mmI il_L_law_23 23 rfl) (mmC (mmI il_L_law_24 0 rfl) (mmC (mmI il_L_law_24 1 rfl) (mmC (mmI il_L_law_1 2 rfl) (mmC (mmI il_L_law_24 2 rfl) (mmC (mmI il_L_law_8 20 rfl) (mmC (mmI il_L_law_1 14 rfl) (mmC (mmI il_L_law_12 6 rfl) (mmC (mmI il_L_law_12 7 rfl) (mmC (mmI il_L_law_12 8 rfl) (mmC (mmI il_L_law_12 9 rfl) (mmC (mmI il_L_law_10 18 rfl) (mmC (mmI il_L_law_1 16 rfl) (mmC (mmI il_L_law_16 1 rfl) mmN)))))))))))))))))))))))) (mmA (mmC (mmI il_L_law_16 2 rfl) (mmC (mmI il_L_law_16 3 rfl) (mmC (mmI il_L_law_16 4 rfl) (mmC (mmI il_L_law_7 5 rfl) (mmC (mmI il_L_law_7 6 rfl) (mmC (mmI il_L_law_7 7 rfl) (mmC (mmI il_L_law_7 8 rfl) (mmC (mmI il_L_law_2 15 rfl) (mmC (mmI il_L_law_24 3 rfl) (mmC (mmI il_L_law_24 4 rfl) (mmC (mmI il_L_law_24 5 rfl) (mmC (mmI il_L_law_10 20 rfl) (mmC (mmI il_L_law_24 6 rfl) (mmC (mmI il_L_law_24 7 rfl) (mmC (mmI il_L_law_11 9 rfl) (mmC (mmI il_L_law_11 7 rfl) (mmC (mmI il_L_law_11 11 rfl) (mmC (mmI il_L_law_24 8 rfl) (mmC (mmI il_L_law_24 9 rfl) (mmC (mmI il_L_law_24 10 rfl) (mmC (mmI il_L_law_24 11 rfl) (mmC (mmI il_L_law_24 12 rfl) (mmC (mmI il_L_law_12 10 rfl) (mmC (mmI il_L_law_12 11 rfl) mmN)))))))))))))))))))))))) (mmA (mmC (mmI il_L_law_12 12 rfl) (mmC (mmI il_L_law_12 14 rfl) (mmC (mmI il_L_law_12 15 rfl) (mmC (mmI il_L_law_12 16 rfl) (mmC (mmI il_L_law_12 17 rfl) (mmC (mmI il_L_law_12 18 rfl) (mmC (mmI il_L_law_12 19 rfl) (mmC (mmI il_L_law_24 13 rfl) (mmC (mmI il_L_law_24 14 rfl) (mmC (mmI il_L_law_24 15 rfl) (mmC (mmI il_L_law_24 16 rfl) (mmC (mmI il_L_law_2 13 rfl) (mmC (mmI il_L_law_1 22 rfl) (mmC (mmI il_L_law_24 17 rfl) (mmC (mmI il_L_law_24 18 rfl) (mmC (mmI il_L_law_20 23 rfl) (mmC (mmI il_L_law_24 19 rfl) (mmC (mmI il_L_law_24 20 rfl) (mmC (mmI il_L_law_24 21 rfl) (mmC (mmI il_L_law_24 22 rfl) (mmC (mmI il_L_law_8 22 rfl) (mmC (mmI il_L_law_24 23 rfl) (mmC (mmI il_L_law_9 7 rfl) (mmC (mmI il_L_law_25 0 rfl) mmN)))))))))))))))))))))))) (mmA (mmC (mmI il_L_law_25 1 rfl) (mmC (mmI il_L_law_25 2 rfl) (mmC (mmI il_L_law_1 21 rfl) (mmC (mmI il_L_law_25 3 rfl) (mmC (mmI il_L_law_2 22 rfl) (mmC (mmI il_L_law_21 17 rfl) (mmC (mmI il_L_law_2 21 rfl) (mmC (mmI il_L_law_25 4 rfl) (mmC (mmI il_L_law_25 5 rfl) (mmC (mmI il_L_law_25 6 rfl) (mmC (mmI il_L_law_3 11 rfl) (mmC (mmI il_L_law_3 12 rfl) (mmC (mmI il_L_law_3 0 rfl) (mmC (mmI il_L_law_3 13 rfl) (mmC (mmI il_L_law_3 7 rfl) (mmC (mmI il_L_law_3 8 rfl) (mmC (mmI il_L_law_3 14 rfl) (mmC (mmI il_L_law_3 15 rfl) (mmC (mmI il_L_law_3 16 rfl) (mmC (mmI il_L_law_3 17 rfl) (mmC (mmI il_L_law_3 18 rfl) (mmC (mmI il_L_law_3 19 rfl) (mmC (mmI il_L_law_3 20 rfl) (mmC (mmI il_L_law_3 21 rfl) mmN)))))))))))))))))))))))) (mmC (mmI il_L_law_3 22 rfl) (mmC (mmI il_L_law_3 23 rfl) (mmC (mmI il_L_law_25 7 rfl) (mmC (mmI il_L_law_25 8 rfl) (mmC (mmI il_L_law_25 9 rfl) (mmC (mmI il_L_law_25 10 rfl) (mmC (mmI il_L_law_1 11 rfl) (mmC (mmI il_L_law_1 12 rfl) (mmC (mmI il_L_law_25 11 rfl) (mmC (mmI il_L_law_25 12 rfl) (mmC (mmI il_L_law_2 12 rfl) (mmC (mmI il_L_law_25 13 rfl) (mmC (mmI il_L_law_25 14 rfl) (mmC (mmI il_L_law_25 15 rfl) (mmC (mmI il_L_law_25 16 rfl) (mmC (mmI il_L_law_25 17 rfl) mmN)))))))))))))))))))) il_L_law_47) il_L_law_56) il_L_law_55) il_L_law_54) il_L_law_49) il_L_law_53)) gw_X10_sign
theorem gL_law_X10_sign : GoodIn wsL_law (wsV RL 72 RX10 yX10_sign wsX10_sign) := goodIn_app (goodIn_sub (mmC (mmI il_L_law_23 16 rfl) (mmC (mmI il_L_law_23 17 rfl) (mmC (mmI il_L_law_23 18 rfl) (mmC (mmI il_L_law_1 2 rfl) mmN)))) (by decide +kernel)) ggL_law_X10_sign
set_option maxRecDepth 100000 in
theorem ggL_law_X11_sign_ : GoodIn wsL_law wsX11_sign_ := goodIn_sub (mmC (mmI il_L_law_25 21 rfl) (mmA (mmA (mmC (mmI il_L_law_13 0 rfl) (mmC (mmI il_L_law_5 9 rfl) (mmC (mmI il_L_law_6 2 rfl) (mmC (mmI il_L_law_5 20 rfl) (mmC (mmI il_L_law_6 16 rfl) (mmC (mmI il_L_law_7 13 rfl) (mmC (mmI il_L_law_5 4 rfl) (mmC (mmI il_L_law_5 21 rfl) (mmC (mmI il_L_law_5 22 rfl) (mmC (mmI il_L_law_5 23 rfl) (mmC (mmI il_L_law_6 0 rfl) (mmC (mmI il_L_law_6 1 rfl) (mmC (mmI il_L_law_6 4 rfl) (mmC (mmI il_L_law_25 22 rfl) (mmC (mmI il_L_law_25 23 rfl) (mmC (mmI il_L_law_26 0 rfl) (mmC (mmI il_L_law_1 5 rfl) (mmC (mmI il_L_law_26 1 rfl) (mmC (mmI il_L_law_10 13 rfl) (mmC (mmI il_L_law_8 12 rfl) (mmC (mmI il_L_law_8 13 rfl) (mmC (mmI il_L_law_8 14 rfl) (mmC (mmI il_L_law_13 1 rfl) (mmC (mmI il_L_law_13 2 rfl) mmN)))))))))))))))))))))))) (mmA (mmC (mmI il_L_law_13 3 rfl) (mmC (mmI il_L_law_13 4 rfl) (mmC (mmI il_L_law_11 20 rfl) (mmC (mmI il_L_law_16 19 rfl) (mmC (mmI il_L_law_16 20 rfl) (mmC (mmI il_L_law_16 21 rfl) (mmC (mmI il_L_law_16 22 rfl) (mmC (mmI il_L_law_7 14 rfl) (mmC (mmI il_L_law_7 15 rfl) (mmC (mmI il_L_law_7 16 rfl) (mmC (mmI il_L_law_7 17 rfl) (mmC (mmI il_L_law_5 0 rfl) (mmC (mmI il_L_law_13 5 rfl) (mmC (mmI il_L_law_13 6 rfl) (mmC (mmI il_L_law_13 7 rfl) (mmC (mmI il_L_law_13 8 rfl) (mmC (mmI il_L_law_13 9 rfl) (mmC (mmI il_L_law_5 10 rfl) (mmC (mmI il_L_law_5 11 rfl) (mmC (mmI il_L_law_13 10 rfl) (mmC (mmI il_L_law_13 11 rfl) (mmC (mmI il_L_law_13 12 rfl) (mmC (mmI il_L_law_13 13 rfl) (mmC (mmI il_L_law_26 2 rfl) mmN)))))))))))))))))))))))) (mmA (mmC (mmI il_L_law_26 3 rfl) (mmC (mmI il_L_law_26 4 rfl) (mmC (mmI il_L_law_26 5 rfl) (mmC (mmI il_L_law_26 6 rfl) (mmC (mmI il_L_law_26 7 rfl) (mmC (mmI il_L_law_26 8 rfl) (mmC (mmI il_L_law_26 9 rfl) (mmC (mmI il_L_law_5 16 rfl) (mmC (mmI il_L_law_26 10 rfl) (mmC (mmI il_L_law_26 11 rfl) (mmC (mmI il_L_law_26 12 rfl) (mmC (mmI il_L_law_26 13 rfl) (mmC (mmI il_L_law_21 22 rfl) (mmC (mmI il_L_law_5 17 rfl) (mmC (mmI il_L_law_5 18 rfl) (mmC (mmI il_L_law_22 1 rfl) (mmC (mmI il_L_law_22 2 rfl) (mmC (mmI il_L_law_22 3 rfl) (mmC (mmI il_L_law_22 4 rfl) (mmC (mmI il_L_law_22 5 rfl) (mmC (mmI il_L_law_22 6 rfl) (mmC (mmI il_L_law_22 0 rfl) (mmC (mmI il_L_law_22 7 rfl) (mmC (mmI il_L_law_21 23 rfl) mmN)))))))))))))))))))))))) (mmA (mmC (mmI il_L_law_22 8 rfl) (mmC (mmI il_L_law_22 9 rfl) (mmC (mmI il_L_law_22 10 rfl) (mmC (mmI il_L_law_22 11 rfl) (mmC (mmI il_L_law_22 12 rfl) (mmC (mmI il_L_law_22 13 rfl) (mmC (mmI il_L_law_22 14 rfl) (mmC (mmI il_L_law_22 15 rfl) (mmC (mmI il_L_law_22 16 rfl) (mmC (mmI il_L_law_22 17 rfl) (mmC (mmI il_L_law_22 18 rfl) (mmC (mmI il_L_law_6 15 rfl) (mmC (mmI il_L_law_5 19 rfl) (mmC (mmI il_L_law_22 19 rfl) (mmC (mmI il_L_law_22 20 rfl) (mmC (mmI il_L_law_22 21 rfl) (mmC (mmI il_L_law_22 22 rfl) (mmC (mmI il_L_law_22 23 rfl) (mmC (mmI il_L_law_23 0 rfl) (mmC (mmI il_L_law_23 1 rfl) (mmC (mmI il_L_law_23 2 rfl) (mmC (mmI il_L_law_23 3 rfl) (mmC (mmI il_L_law_23 4 rfl) (mmC (mmI il_L_law_23 5 rfl) mmN)))))))))))))))))))))))) (mmC (mmI il_L_law_23 6 rfl) (mmC (mmI il_L_law_23 7 rfl) (mmC (mmI il_L_law_23 8 rfl) (mmC (mmI il_L_law_23 9 rfl) (mmC (mmI il_L_law_23 10 rfl) (mmC (mmI il_L_law_23 11 rfl) (mmC (mmI il_L_law_23 12 rfl) (mmC (mmI il_L_law_23 13 rfl) (mmC (mmI il_L_law_23 14 rfl) (mmC (mmI il_L_law_23 15 rfl) mmN)))))))))))))) il_L_law_48)) gw_X11_sign_
theorem gL_law_X11_sign_ : GoodIn wsL_law (wsV RL 76 RX11 yX11_sign_ wsX11_sign_) := goodIn_app (goodIn_sub (mmC (mmI il_L_law_25 18 rfl) (mmC (mmI il_L_law_25 19 rfl) (mmC (mmI il_L_law_25 20 rfl) (mmC (mmI il_L_law_1 5 rfl) mmN)))) (by decide +kernel)) ggL_law_X11_sign_
set_option maxRecDepth 100000 in
theorem ggL_law_X10_off : GoodIn wsL_law wsX10_off := goodIn_sub (mmC (mmI il_L_law_26 17 rfl) (mmA (mmA (mmA (mmA (mmC (mmI il_L_law_7 4 rfl) (mmC (mmI il_L_law_12 5 rfl) (mmC (mmI il_L_law_16 1 rfl) (mmC (mmI il_L_law_16 2 rfl) (mmC (mmI il_L_law_16 3 rfl) (mmC (mmI il_L_law_1 2 rfl) (mmC (mmI il_L_law_16 4 rfl) (mmC (mmI il_L_law_12 3 rfl) (mmC (mmI il_L_law_1 18 rfl) (mmC (mmI il_L_law_7 22 rfl) (mmC (mmI il_L_law_7 23 rfl) (mmC (mmI il_L_law_8 0 rfl) (mmC (mmI il_L_law_7 5 rfl) (mmC (mmI il_L_law_7 6 rfl) (mmC (mmI il_L_law_7 7 rfl) (mmC (mmI il_L_law_7 8 rfl) (mmC (mmI il_L_law_2 15 rfl) (mmC (mmI il_L_law_12 10 rfl) (mmC (mmI il_L_law_12 11 rfl) (mmC (mmI il_L_law_12 12 rfl) (mmC (mmI il_L_law_12 13 rfl) (mmC (mmI il_L_law_12 14 rfl) (mmC (mmI il_L_law_12 15 rfl) (mmC (mmI il_L_law_12 16 rfl) mmN)))))))))))))))))))))))) (mmC (mmI il_L_law_12 17 rfl) (mmC (mmI il_L_law_12 18 rfl) (mmC (mmI il_L_law_12 19 rfl) mmN)))) il_L_law_47) il_L_law_56) il_L_law_55)) gw_X10_off
theorem gL_law_X10_off : GoodIn wsL_law (wsV RL 77 RX10 yX10_off wsX10_off) := goodIn_app (goodIn_sub (mmC (mmI il_L_law_26 14 rfl) (mmC (mmI il_L_law_26 15 rfl) (mmC (mmI il_L_law_26 16 rfl) (mmC (mmI il_L_law_1 2 rfl) mmN)))) (by decide +kernel)) ggL_law_X10_off
set_option maxRecDepth 100000 in
theorem ggL_law_X11_off : GoodIn wsL_law wsX11_off := goodIn_sub (mmC (mmI il_L_law_26 21 rfl) (mmA (mmA (mmC (mmI il_L_law_6 2 rfl) (mmC (mmI il_L_law_7 13 rfl) (mmC (mmI il_L_law_16 19 rfl) (mmC (mmI il_L_law_16 20 rfl) (mmC (mmI il_L_law_16 21 rfl) (mmC (mmI il_L_law_1 5 rfl) (mmC (mmI il_L_law_16 22 rfl) (mmC (mmI il_L_law_13 0 rfl) (mmC (mmI il_L_law_8 12 rfl) (mmC (mmI il_L_law_8 13 rfl) (mmC (mmI il_L_law_8 14 rfl) (mmC (mmI il_L_law_8 9 rfl) (mmC (mmI il_L_law_8 10 rfl) (mmC (mmI il_L_law_8 11 rfl) (mmC (mmI il_L_law_7 14 rfl) (mmC (mmI il_L_law_7 15 rfl) (mmC (mmI il_L_law_7 16 rfl) (mmC (mmI il_L_law_7 17 rfl) (mmC (mmI il_L_law_5 0 rfl) (mmC (mmI il_L_law_13 10 rfl) (mmC (mmI il_L_law_13 11 rfl) (mmC (mmI il_L_law_13 12 rfl) (mmC (mmI il_L_law_13 13 rfl) (mmC (mmI il_L_law_5 21 rfl) mmN)))))))))))))))))))))))) (mmC (mmI il_L_law_13 5 rfl) (mmC (mmI il_L_law_13 6 rfl) (mmC (mmI il_L_law_13 7 rfl) (mmC (mmI il_L_law_13 8 rfl) (mmC (mmI il_L_law_13 9 rfl) (mmC (mmI il_L_law_5 10 rfl) (mmC (mmI il_L_law_5 11 rfl) mmN)))))))) il_L_law_48)) gw_X11_off
theorem gL_law_X11_off : GoodIn wsL_law (wsV RL 80 RX11 yX11_off wsX11_off) := goodIn_app (goodIn_sub (mmC (mmI il_L_law_26 18 rfl) (mmC (mmI il_L_law_26 19 rfl) (mmC (mmI il_L_law_26 20 rfl) (mmC (mmI il_L_law_1 5 rfl) mmN)))) (by decide +kernel)) ggL_law_X11_off
theorem dL_law_677 : decode cL_law 677 = .ok (.aload_n 1, 1) := by decide +kernel
theorem dL_law_678 : decode cL_law 678 = .ok (.aload_n 0, 1) := by decide +kernel
theorem dL_law_679 : decode cL_law 679 = .ok (.iload_n 3, 1) := by decide +kernel
theorem dL_law_680 : decode cL_law 680 = .ok (.iconst 1, 1) := by decide +kernel
theorem dL_law_681 : decode cL_law 681 = .ok (.iadd, 1) := by decide +kernel
theorem dL_law_682 : decode cL_law 682 = .ok (.iaload, 1) := by decide +kernel
theorem dL_law_683 : decode cL_law 683 = .ok (.aload_n 0, 1) := by decide +kernel
theorem dL_law_684 : decode cL_law 684 = .ok (.iload_n 3, 1) := by decide +kernel
theorem dL_law_685 : decode cL_law 685 = .ok (.iconst 2, 1) := by decide +kernel
theorem dL_law_686 : decode cL_law 686 = .ok (.iadd, 1) := by decide +kernel
theorem dL_law_687 : decode cL_law 687 = .ok (.iaload, 1) := by decide +kernel
theorem dL_law_688 : decode cL_law 688 = .ok (.aload_n 0, 1) := by decide +kernel
theorem dL_law_689 : decode cL_law 689 = .ok (.iload_n 3, 1) := by decide +kernel
theorem dL_law_690 : decode cL_law 690 = .ok (.iconst 3, 1) := by decide +kernel
theorem dL_law_691 : decode cL_law 691 = .ok (.iadd, 1) := by decide +kernel
theorem dL_law_692 : decode cL_law 692 = .ok (.iaload, 1) := by decide +kernel
theorem dL_law_693 : decode cL_law 693 = .ok (.aload_n 0, 1) := by decide +kernel
theorem dL_law_694 : decode cL_law 694 = .ok (.iload_n 3, 1) := by decide +kernel
theorem dL_law_695 : decode cL_law 695 = .ok (.iconst 4, 1) := by decide +kernel
theorem dL_law_696 : decode cL_law 696 = .ok (.iadd, 1) := by decide +kernel
theorem dL_law_697 : decode cL_law 697 = .ok (.iaload, 1) := by decide +kernel
theorem dL_law_698 : decode cL_law 698 = .ok (.aload_n 0, 1) := by decide +kernel
theorem dL_law_699 : decode cL_law 699 = .ok (.iload_n 3, 1) := by decide +kernel
theorem dL_law_700 : decode cL_law 700 = .ok (.iconst 5, 1) := by decide +kernel
theorem dL_law_701 : decode cL_law 701 = .ok (.iadd, 1) := by decide +kernel
theorem dL_law_702 : decode cL_law 702 = .ok (.iaload, 1) := by decide +kernel
theorem dL_law_703 : decode cL_law 703 = .ok (.invokevirtual 72, 3) := by decide +kernel
theorem dL_law_706 : decode cL_law 706 = .ok (.pop, 1) := by decide +kernel
theorem dL_law_707 : decode cL_law 707 = .ok (.aload_n 2, 1) := by decide +kernel
theorem dL_law_708 : decode cL_law 708 = .ok (.aload_n 0, 1) := by decide +kernel
theorem dL_law_709 : decode cL_law 709 = .ok (.iload_n 3, 1) := by decide +kernel
theorem dL_law_710 : decode cL_law 710 = .ok (.iconst 1, 1) := by decide +kernel
theorem dL_law_711 : decode cL_law 711 = .ok (.iadd, 1) := by decide +kernel
theorem dL_law_712 : decode cL_law 712 = .ok (.iaload, 1) := by decide +kernel
theorem dL_law_713 : decode cL_law 713 = .ok (.aload_n 0, 1) := by decide +kernel
theorem dL_law_714 : decode cL_law 714 = .ok (.iload_n 3, 1) := by decide +kernel
theorem dL_law_715 : decode cL_law 715 = .ok (.iconst 2, 1) := by decide +kernel
theorem dL_law_716 : decode cL_law 716 = .ok (.iadd, 1) := by decide +kernel
theorem dL_law_717 : decode cL_law 717 = .ok (.iaload, 1) := by decide +kernel
theorem dL_law_718 : decode cL_law 718 = .ok (.aload_n 0, 1) := by decide +kernel
theorem dL_law_719 : decode cL_law 719 = .ok (.iload_n 3, 1) := by decide +kernel
theorem dL_law_720 : decode cL_law 720 = .ok (.iconst 3, 1) := by decide +kernel
theorem dL_law_721 : decode cL_law 721 = .ok (.iadd, 1) := by decide +kernel
theorem dL_law_722 : decode cL_law 722 = .ok (.iaload, 1) := by decide +kernel
theorem dL_law_723 : decode cL_law 723 = .ok (.aload_n 0, 1) := by decide +kernel
theorem dL_law_724 : decode cL_law 724 = .ok (.iload_n 3, 1) := by decide +kernel
theorem dL_law_725 : decode cL_law 725 = .ok (.iconst 4, 1) := by decide +kernel
theorem dL_law_726 : decode cL_law 726 = .ok (.iadd, 1) := by decide +kernel
theorem dL_law_727 : decode cL_law 727 = .ok (.iaload, 1) := by decide +kernel
theorem dL_law_728 : decode cL_law 728 = .ok (.aload_n 0, 1) := by decide +kernel
theorem dL_law_729 : decode cL_law 729 = .ok (.iload_n 3, 1) := by decide +kernel
theorem dL_law_730 : decode cL_law 730 = .ok (.iconst 5, 1) := by decide +kernel
theorem dL_law_731 : decode cL_law 731 = .ok (.iadd, 1) := by decide +kernel
theorem dL_law_732 : decode cL_law 732 = .ok (.iaload, 1) := by decide +kernel
theorem dL_law_733 : decode cL_law 733 = .ok (.invokevirtual 76, 3) := by decide +kernel
theorem dL_law_736 : decode cL_law 736 = .ok (.pop, 1) := by decide +kernel
theorem dL_law_737 : decode cL_law 737 = .ok (.goto 762, 3) := by decide +kernel
theorem dL_law_740 : decode cL_law 740 = .ok (.aload_n 1, 1) := by decide +kernel
theorem dL_law_741 : decode cL_law 741 = .ok (.aload_n 0, 1) := by decide +kernel
theorem dL_law_742 : decode cL_law 742 = .ok (.iload_n 3, 1) := by decide +kernel
theorem dL_law_743 : decode cL_law 743 = .ok (.iconst 1, 1) := by decide +kernel
theorem dL_law_744 : decode cL_law 744 = .ok (.iadd, 1) := by decide +kernel
theorem dL_law_745 : decode cL_law 745 = .ok (.iaload, 1) := by decide +kernel
theorem dL_law_746 : decode cL_law 746 = .ok (.aload_n 0, 1) := by decide +kernel
theorem dL_law_747 : decode cL_law 747 = .ok (.iload_n 3, 1) := by decide +kernel
theorem dL_law_748 : decode cL_law 748 = .ok (.iconst 2, 1) := by decide +kernel
theorem dL_law_749 : decode cL_law 749 = .ok (.iadd, 1) := by decide +kernel
theorem dL_law_750 : decode cL_law 750 = .ok (.iaload, 1) := by decide +kernel
theorem dL_law_751 : decode cL_law 751 = .ok (.invokevirtual 77, 3) := by decide +kernel
theorem dL_law_754 : decode cL_law 754 = .ok (.pop, 1) := by decide +kernel
theorem dL_law_755 : decode cL_law 755 = .ok (.aload_n 2, 1) := by decide +kernel
theorem dL_law_756 : decode cL_law 756 = .ok (.aload_n 0, 1) := by decide +kernel
theorem dL_law_757 : decode cL_law 757 = .ok (.iload_n 3, 1) := by decide +kernel
theorem dL_law_758 : decode cL_law 758 = .ok (.iconst 1, 1) := by decide +kernel
theorem dL_law_759 : decode cL_law 759 = .ok (.iadd, 1) := by decide +kernel
theorem dL_law_760 : decode cL_law 760 = .ok (.iaload, 1) := by decide +kernel
theorem dL_law_761 : decode cL_law 761 = .ok (.aload_n 0, 1) := by decide +kernel
theorem dL_law_762 : decode cL_law 762 = .ok (.iload_n 3, 1) := by decide +kernel
theorem dL_law_763 : decode cL_law 763 = .ok (.iconst 2, 1) := by decide +kernel
theorem dL_law_764 : decode cL_law 764 = .ok (.iadd, 1) := by decide +kernel
theorem dL_law_765 : decode cL_law 765 = .ok (.iaload, 1) := by decide +kernel
theorem dL_law_766 : decode cL_law 766 = .ok (.invokevirtual 80, 3) := by decide +kernel
theorem dL_law_769 : decode cL_law 769 = .ok (.pop, 1) := by decide +kernel
theorem dL_law_770 : decode cL_law 770 = .ok (.goto 729, 3) := by decide +kernel


set_option maxHeartbeats 4000000 in
set_option maxRecDepth 100000 in
theorem lc_13 {p : Program} {l : Launch} {e : Env} {s : State} {m : MethodId} {below : List Frame} {meth : Method} {c : Code} {b L : Nat} {xs : Nat → Int32} {A : Nat → Prop} {dC : Nat → ClassId} {dI : Nat → Nat → Nat} {tL tS tG h0 g0 : Nat} {pq : Nat → Nat} {cq cp : Nat → ClassId} (C0 : lw_At p s m meth c b L xs) (hL : L ≤ 3072) (hA : ∀ q : Nat, s.heap.size ≤ q → A q) (hAq : ∀ q, A q → s.heap.size ≤ q) (hZ : stO A tL tS tG s s.heap) (hKo : va_K (dC, dI) vwCl (oT cq) s) (hKm : va_K (dC, dI) vwCl (mT cp) s) {S : oS} {v : Nat → Int32} {fa : Nat → Nat → Int32} {H : Heap} {locs : List Loc} {i cells slots : Nat} (hi : i + 6 ≤ L) (hcl : cells ≤ 500000) (hsl : slots ≤ 7000000) (hJ : lwI S h0 v fa) (hH : lwH (dC, dI) A cq cp g0 pq S v fa H) (hS : va_S A s.heap H locs) {ls : Array Slot} (hl : lv_has ls 4 [(3, .int (nI i)), (2, .ref g0), (1, .ref h0), (0, .ref b)]) (K : (∀ (S1 : oS) (v1 : Nat → Int32) (fa1 : Nat → Nat → Int32) (H1 : Heap) (locs1 : List Loc) (ls1 : Array Slot), lwI S1 h0 v1 fa1 → lwH (dC, dI) A cq cp g0 pq S1 v1 fa1 H1 → va_S A s.heap H1 locs1 → lv_has ls1 4 [(3, .int (nI i)), (2, .ref g0), (1, .ref h0), (0, .ref b)] → W p l e room_1 s m #[Value.ref b] below meth c H1 locs1 (cells + 4) (slots + 134) (lw_Z below #[Value.ref b] s) (F0 m 1499 ls1 []))) : W p l e room_1 s m #[Value.ref b] below meth c H locs cells slots (lw_Z below #[Value.ref b] s) (F0 m 677 ls []) := by
  obtain ⟨hx, hb, hr, hml, hown, hts, hX, hbl, hlocks, hgv⟩ := id C0
  have hts := fun w h => hts w (wsL_law_in w h)
  have hown : s.vm.findClass RL = some m.cls := hown
  have hbA : ¬ A b := fun h => Nat.not_le.mpr hbl (hAq b h)
  refine lv_aload_n hx hb dL_law_677 rfl (lv_at hl 2 rfl) ?_
  refine lv_aload_n hx hb dL_law_678 rfl (lv_at hl 3 rfl) ?_
  refine lv_iload_n hx hb dL_law_679 rfl (lv_at hl 0 rfl) ?_
  refine lv_iconst (v := 1) hx hb dL_law_680 (by decide +kernel) ?_
  refine lv_iadd hx hb dL_law_681 ?_
  refine lv_topi (fun y_1 ey_1 => ?_)
  have hy_1 : y_1.toInt = (i : Int) + 1 := by rw [ey_1]; exact ad_i (nI_toInt (by omega)) (by decide +kernel) (by omega) (by omega)
  have ny_1 : y_1.toNatClampNeg = i + 1 := (show y_1.toInt.toNat = _ by omega)
  clear ey_1
  refine va_sld hx hb hX hbl hbA hS (vp_in_iff.mpr (by omega)) dL_law_682 ?_
  refine lv_topi (fun z_2 ez_2 => ?_)
  obtain rfl : z_2 = xs (i + 1) := ez_2.trans (by rw [ny_1])
  clear ny_1 hy_1
  refine lv_aload_n hx hb dL_law_683 rfl (lv_at hl 3 rfl) ?_
  refine lv_iload_n hx hb dL_law_684 rfl (lv_at hl 0 rfl) ?_
  refine lv_iconst (v := 2) hx hb dL_law_685 (by decide +kernel) ?_
  refine lv_iadd hx hb dL_law_686 ?_
  refine lv_topi (fun y_3 ey_3 => ?_)
  have hy_3 : y_3.toInt = (i : Int) + 2 := by rw [ey_3]; exact ad_i (nI_toInt (by omega)) (by decide +kernel) (by omega) (by omega)
  have ny_3 : y_3.toNatClampNeg = i + 2 := (show y_3.toInt.toNat = _ by omega)
  clear ey_3
  refine va_sld hx hb hX hbl hbA hS (vp_in_iff.mpr (by omega)) dL_law_687 ?_
  refine lv_topi (fun z_4 ez_4 => ?_)
  obtain rfl : z_4 = xs (i + 2) := ez_4.trans (by rw [ny_3])
  clear ny_3 hy_3
  refine lv_aload_n hx hb dL_law_688 rfl (lv_at hl 3 rfl) ?_
  refine lv_iload_n hx hb dL_law_689 rfl (lv_at hl 0 rfl) ?_
  refine lv_iconst (v := 3) hx hb dL_law_690 (by decide +kernel) ?_
  refine lv_iadd hx hb dL_law_691 ?_
  refine lv_topi (fun y_5 ey_5 => ?_)
  have hy_5 : y_5.toInt = (i : Int) + 3 := by rw [ey_5]; exact ad_i (nI_toInt (by omega)) (by decide +kernel) (by omega) (by omega)
  have ny_5 : y_5.toNatClampNeg = i + 3 := (show y_5.toInt.toNat = _ by omega)
  clear ey_5
  refine va_sld hx hb hX hbl hbA hS (vp_in_iff.mpr (by omega)) dL_law_692 ?_
  refine lv_topi (fun z_6 ez_6 => ?_)
  obtain rfl : z_6 = xs (i + 3) := ez_6.trans (by rw [ny_5])
  clear ny_5 hy_5
  refine lv_aload_n hx hb dL_law_693 rfl (lv_at hl 3 rfl) ?_
  refine lv_iload_n hx hb dL_law_694 rfl (lv_at hl 0 rfl) ?_
  refine lv_iconst (v := 4) hx hb dL_law_695 (by decide +kernel) ?_
  refine lv_iadd hx hb dL_law_696 ?_
  refine lv_topi (fun y_7 ey_7 => ?_)
  have hy_7 : y_7.toInt = (i : Int) + 4 := by rw [ey_7]; exact ad_i (nI_toInt (by omega)) (by decide +kernel) (by omega) (by omega)
  have ny_7 : y_7.toNatClampNeg = i + 4 := (show y_7.toInt.toNat = _ by omega)
  clear ey_7
  refine va_sld hx hb hX hbl hbA hS (vp_in_iff.mpr (by omega)) dL_law_697 ?_
  refine lv_topi (fun z_8 ez_8 => ?_)
  obtain rfl : z_8 = xs (i + 4) := ez_8.trans (by rw [ny_7])
  clear ny_7 hy_7
  refine lv_aload_n hx hb dL_law_698 rfl (lv_at hl 3 rfl) ?_
  refine lv_iload_n hx hb dL_law_699 rfl (lv_at hl 0 rfl) ?_
  refine lv_iconst (v := 5) hx hb dL_law_700 (by decide +kernel) ?_
  refine lv_iadd hx hb dL_law_701 ?_
  refine lv_topi (fun y_9 ey_9 => ?_)
  have hy_9 : y_9.toInt = (i : Int) + 5 := by rw [ey_9]; exact ad_i (nI_toInt (by omega)) (by decide +kernel) (by omega) (by omega)
  have ny_9 : y_9.toNatClampNeg = i + 5 := (show y_9.toInt.toNat = _ by omega)
  clear ey_9
  refine va_sld hx hb hX hbl hbA hS (vp_in_iff.mpr (by omega)) dL_law_702 ?_
  refine lv_topi (fun z_10 ez_10 => ?_)
  obtain rfl : z_10 = xs (i + 5) := ez_10.trans (by rw [ny_9])
  clear ny_9 hy_9
  obtain ⟨hI_o, to, gV, gA, hlw⟩ := id hJ
  obtain ⟨hPo, hDo, hPm, hDm, hdis⟩ := id hH
  have hFc := o_free hDo hS hA
  obtain ⟨q0, hq0⟩ := og (cq := cq) to.1 (oE_10 to.2)
  refine va_calli (va_runV (As := [.int (xs (i + 1)), .int (xs (i + 2)), .int (xs (i + 3)), .int (xs (i + 4)), .int (xs (i + 5))]) (rest := []) ⟨hx, hb, hml, hown, hts⟩ (c_X10_sign_c l dC dI H.size tL tS tG cq S hI_o h0 to (xs (i + 1)) (xs (i + 2)) (xs (i + 3)) (xs (i + 4)) (xs (i + 5)) v fa hlw) (cwV 5 hts gL_law_X10_sign rfl rfl rfl (by decide +kernel) ⟨(Nat.le_of_ble_eq_true rfl), (Nat.le_of_ble_eq_true rfl)⟩) (pr_VO (r := (RX10, TX10, 16)) hPo hKo hDo q0 10 rfl hq0 (hZ.go hS hFc)) rfl rfl hl.1 rfl (lv_room (Nat.le_of_ble_eq_true rfl)) dL_law_703 ⟨(show cells + 4 ≤ 600000 by omega), (show slots + 64 ≤ 7302250 by omega)⟩) hS (fun q _ h => hFc q h) hFc (fun r_12 u t H locs ht hvm w_11 hB hz1 hk1 hS => ?_)
  refine W.widen (k := cells + 4) (n := slots + 64) (by omega) (by omega) ?_
  obtain ⟨S9, rfl⟩ : ∃ z, z = u := ⟨_, rfl⟩
  obtain ⟨hP1, hK1, hD1⟩ := hB
  rw [ht] at hP1
  have hH := lwH_o hH hFc hk1 hP1 hD1
  clear hP1 hK1 hD1
  obtain ⟨hI1, hX1, hp1⟩ := w_11
  clear hk1 hz1 hvm ht hFc
  refine lv_pop hx hb dL_law_706 rfl ?_
  refine lv_aload_n hx hb dL_law_707 rfl (lv_at hl 1 rfl) ?_
  refine lv_aload_n hx hb dL_law_708 rfl (lv_at hl 3 rfl) ?_
  refine lv_iload_n hx hb dL_law_709 rfl (lv_at hl 0 rfl) ?_
  refine lv_iconst (v := 1) hx hb dL_law_710 (by decide +kernel) ?_
  refine lv_iadd hx hb dL_law_711 ?_
  refine lv_topi (fun y_13 ey_13 => ?_)
  have hy_13 : y_13.toInt = (i : Int) + 1 := by rw [ey_13]; exact ad_i (nI_toInt (by omega)) (by decide +kernel) (by omega) (by omega)
  have ny_13 : y_13.toNatClampNeg = i + 1 := (show y_13.toInt.toNat = _ by omega)
  clear ey_13
  refine va_sld hx hb hX hbl hbA hS (vp_in_iff.mpr (by omega)) dL_law_712 ?_
  refine lv_topi (fun z_14 ez_14 => ?_)
  obtain rfl : z_14 = xs (i + 1) := ez_14.trans (by rw [ny_13])
  clear ny_13 hy_13
  refine lv_aload_n hx hb dL_law_713 rfl (lv_at hl 3 rfl) ?_
  refine lv_iload_n hx hb dL_law_714 rfl (lv_at hl 0 rfl) ?_
  refine lv_iconst (v := 2) hx hb dL_law_715 (by decide +kernel) ?_
  refine lv_iadd hx hb dL_law_716 ?_
  refine lv_topi (fun y_15 ey_15 => ?_)
  have hy_15 : y_15.toInt = (i : Int) + 2 := by rw [ey_15]; exact ad_i (nI_toInt (by omega)) (by decide +kernel) (by omega) (by omega)
  have ny_15 : y_15.toNatClampNeg = i + 2 := (show y_15.toInt.toNat = _ by omega)
  clear ey_15
  refine va_sld hx hb hX hbl hbA hS (vp_in_iff.mpr (by omega)) dL_law_717 ?_
  refine lv_topi (fun z_16 ez_16 => ?_)
  obtain rfl : z_16 = xs (i + 2) := ez_16.trans (by rw [ny_15])
  clear ny_15 hy_15
  refine lv_aload_n hx hb dL_law_718 rfl (lv_at hl 3 rfl) ?_
  refine lv_iload_n hx hb dL_law_719 rfl (lv_at hl 0 rfl) ?_
  refine lv_iconst (v := 3) hx hb dL_law_720 (by decide +kernel) ?_
  refine lv_iadd hx hb dL_law_721 ?_
  refine lv_topi (fun y_17 ey_17 => ?_)
  have hy_17 : y_17.toInt = (i : Int) + 3 := by rw [ey_17]; exact ad_i (nI_toInt (by omega)) (by decide +kernel) (by omega) (by omega)
  have ny_17 : y_17.toNatClampNeg = i + 3 := (show y_17.toInt.toNat = _ by omega)
  clear ey_17
  refine va_sld hx hb hX hbl hbA hS (vp_in_iff.mpr (by omega)) dL_law_722 ?_
  refine lv_topi (fun z_18 ez_18 => ?_)
  obtain rfl : z_18 = xs (i + 3) := ez_18.trans (by rw [ny_17])
  clear ny_17 hy_17
  refine lv_aload_n hx hb dL_law_723 rfl (lv_at hl 3 rfl) ?_
  refine lv_iload_n hx hb dL_law_724 rfl (lv_at hl 0 rfl) ?_
  refine lv_iconst (v := 4) hx hb dL_law_725 (by decide +kernel) ?_
  refine lv_iadd hx hb dL_law_726 ?_
  refine lv_topi (fun y_19 ey_19 => ?_)
  have hy_19 : y_19.toInt = (i : Int) + 4 := by rw [ey_19]; exact ad_i (nI_toInt (by omega)) (by decide +kernel) (by omega) (by omega)
  have ny_19 : y_19.toNatClampNeg = i + 4 := (show y_19.toInt.toNat = _ by omega)
  clear ey_19
  refine va_sld hx hb hX hbl hbA hS (vp_in_iff.mpr (by omega)) dL_law_727 ?_
  refine lv_topi (fun z_20 ez_20 => ?_)
  obtain rfl : z_20 = xs (i + 4) := ez_20.trans (by rw [ny_19])
  clear ny_19 hy_19
  refine lv_aload_n hx hb dL_law_728 rfl (lv_at hl 3 rfl) ?_
  refine lv_iload_n hx hb dL_law_729 rfl (lv_at hl 0 rfl) ?_
  refine lv_iconst (v := 5) hx hb dL_law_730 (by decide +kernel) ?_
  refine lv_iadd hx hb dL_law_731 ?_
  refine lv_topi (fun y_21 ey_21 => ?_)
  have hy_21 : y_21.toInt = (i : Int) + 5 := by rw [ey_21]; exact ad_i (nI_toInt (by omega)) (by decide +kernel) (by omega) (by omega)
  have ny_21 : y_21.toNatClampNeg = i + 5 := (show y_21.toInt.toNat = _ by omega)
  clear ey_21
  refine va_sld hx hb hX hbl hbA hS (vp_in_iff.mpr (by omega)) dL_law_732 ?_
  refine lv_topi (fun z_22 ez_22 => ?_)
  obtain rfl : z_22 = xs (i + 5) := ez_22.trans (by rw [ny_21])
  clear ny_21 hy_21
  obtain ⟨hI_o, to, gV, gA, hlw⟩ := id hJ
  obtain ⟨hPo, hDo, hPm, hDm, hdis⟩ := id hH
  have hFc := o_free hDm hS hA
  refine va_calli (va_runV (As := [.int (xs (i + 1)), .int (xs (i + 2)), .int (xs (i + 3)), .int (xs (i + 4)), .int (xs (i + 5))]) (rest := []) ⟨hx, hb, hml, hown, hts⟩ (c_X11_sign__f l dC dI H.size g0 pq cp v fa gV gA (xs (i + 1)) (xs (i + 2)) (xs (i + 3)) (xs (i + 4)) (xs (i + 5)) (rLw_wl (RC.l hlw))) (cwV 5 hts gL_law_X11_sign_ rfl rfl rfl (by decide +kernel) ⟨(Nat.le_of_ble_eq_true rfl), (Nat.le_of_ble_eq_true rfl)⟩) (pr_V (r := (RX11, TX11, 63)) hPm hKm hDm 0 11 rfl rfl) rfl rfl hl.1 rfl (lv_room (Nat.le_of_ble_eq_true rfl)) dL_law_733 ⟨(show cells + 4 + 0 ≤ 600000 by omega), (show slots + 64 + 0 ≤ 7302250 by omega)⟩) hS (fun q _ h => hFc q h) hFc (fun r_24 u t H locs ht hvm w_23 hB hz1 hk1 hS => ?_)
  obtain ⟨v1, fa1⟩ := u
  obtain ⟨hP1, hK1, hD1⟩ := hB
  rw [ht] at hP1
  dsimp only at hP1 hD1
  have hH := lwH_m hH hFc hk1 hP1 hD1
  clear hP1 hK1 hD1
  obtain ⟨hV1, hA1, hm1, hq1⟩ := w_23
  dsimp only at hV1 hA1 hm1 hq1
  obtain ⟨er, hJ⟩ := lw_sign hJ hI1 hX1 hp1 hV1 hA1 hm1 hq1 (by decide +kernel) (by decide +kernel)
  clear hk1 hz1 hvm ht hFc
  refine lv_pop hx hb dL_law_736 rfl ?_
  refine lv_goto (tgt := 1499) hx hb dL_law_737 (by decide +kernel) ?_
  refine W.widen (k := cells + 4) (n := slots + 134) (by omega) (by omega) ?_
  exact K _ _ _ _ _ _ hJ hH hS hl
set_option maxHeartbeats 4000000 in
set_option maxRecDepth 100000 in
theorem lc_14 {p : Program} {l : Launch} {e : Env} {s : State} {m : MethodId} {below : List Frame} {meth : Method} {c : Code} {b L : Nat} {xs : Nat → Int32} {A : Nat → Prop} {dC : Nat → ClassId} {dI : Nat → Nat → Nat} {tL tS tG h0 g0 : Nat} {pq : Nat → Nat} {cq cp : Nat → ClassId} (C0 : lw_At p s m meth c b L xs) (hL : L ≤ 3072) (hA : ∀ q : Nat, s.heap.size ≤ q → A q) (hAq : ∀ q, A q → s.heap.size ≤ q) (hZ : stO A tL tS tG s s.heap) (hKo : va_K (dC, dI) vwCl (oT cq) s) (hKm : va_K (dC, dI) vwCl (mT cp) s) {S : oS} {v : Nat → Int32} {fa : Nat → Nat → Int32} {H : Heap} {locs : List Loc} {i cells slots : Nat} (hi : i + 6 ≤ L) (hcl : cells ≤ 500000) (hsl : slots ≤ 7000000) (hJ : lwI S h0 v fa) (hH : lwH (dC, dI) A cq cp g0 pq S v fa H) (hS : va_S A s.heap H locs) {ls : Array Slot} (hl : lv_has ls 4 [(3, .int (nI i)), (2, .ref g0), (1, .ref h0), (0, .ref b)]) (K : (∀ (S1 : oS) (v1 : Nat → Int32) (fa1 : Nat → Nat → Int32) (H1 : Heap) (locs1 : List Loc) (ls1 : Array Slot), lwI S1 h0 v1 fa1 → lwH (dC, dI) A cq cp g0 pq S1 v1 fa1 H1 → va_S A s.heap H1 locs1 → lv_has ls1 4 [(3, .int (nI i)), (2, .ref g0), (1, .ref h0), (0, .ref b)] → W p l e room_1 s m #[Value.ref b] below meth c H1 locs1 (cells + 4) (slots + 134) (lw_Z below #[Value.ref b] s) (F0 m 1499 ls1 []))) : W p l e room_1 s m #[Value.ref b] below meth c H locs cells slots (lw_Z below #[Value.ref b] s) (F0 m 740 ls []) := by
  obtain ⟨hx, hb, hr, hml, hown, hts, hX, hbl, hlocks, hgv⟩ := id C0
  have hts := fun w h => hts w (wsL_law_in w h)
  have hown : s.vm.findClass RL = some m.cls := hown
  have hbA : ¬ A b := fun h => Nat.not_le.mpr hbl (hAq b h)
  refine lv_aload_n hx hb dL_law_740 rfl (lv_at hl 2 rfl) ?_
  refine lv_aload_n hx hb dL_law_741 rfl (lv_at hl 3 rfl) ?_
  refine lv_iload_n hx hb dL_law_742 rfl (lv_at hl 0 rfl) ?_
  refine lv_iconst (v := 1) hx hb dL_law_743 (by decide +kernel) ?_
  refine lv_iadd hx hb dL_law_744 ?_
  refine lv_topi (fun y_1 ey_1 => ?_)
  have hy_1 : y_1.toInt = (i : Int) + 1 := by rw [ey_1]; exact ad_i (nI_toInt (by omega)) (by decide +kernel) (by omega) (by omega)
  have ny_1 : y_1.toNatClampNeg = i + 1 := (show y_1.toInt.toNat = _ by omega)
  clear ey_1
  refine va_sld hx hb hX hbl hbA hS (vp_in_iff.mpr (by omega)) dL_law_745 ?_
  refine lv_topi (fun z_2 ez_2 => ?_)
  obtain rfl : z_2 = xs (i + 1) := ez_2.trans (by rw [ny_1])
  clear ny_1 hy_1
  refine lv_aload_n hx hb dL_law_746 rfl (lv_at hl 3 rfl) ?_
  refine lv_iload_n hx hb dL_law_747 rfl (lv_at hl 0 rfl) ?_
  refine lv_iconst (v := 2) hx hb dL_law_748 (by decide +kernel) ?_
  refine lv_iadd hx hb dL_law_749 ?_
  refine lv_topi (fun y_3 ey_3 => ?_)
  have hy_3 : y_3.toInt = (i : Int) + 2 := by rw [ey_3]; exact ad_i (nI_toInt (by omega)) (by decide +kernel) (by omega) (by omega)
  have ny_3 : y_3.toNatClampNeg = i + 2 := (show y_3.toInt.toNat = _ by omega)
  clear ey_3
  refine va_sld hx hb hX hbl hbA hS (vp_in_iff.mpr (by omega)) dL_law_750 ?_
  refine lv_topi (fun z_4 ez_4 => ?_)
  obtain rfl : z_4 = xs (i + 2) := ez_4.trans (by rw [ny_3])
  clear ny_3 hy_3
  obtain ⟨hI_o, to, gV, gA, hlw⟩ := id hJ
  obtain ⟨hPo, hDo, hPm, hDm, hdis⟩ := id hH
  have hFc := o_free hDo hS hA
  obtain ⟨q0, hq0⟩ := og (cq := cq) to.1 (oE_10 to.2)
  refine va_calli (va_runV (As := [.int (xs (i + 1)), .int (xs (i + 2))]) (rest := []) ⟨hx, hb, hml, hown, hts⟩ (c_X10_off_c l dC dI H.size cq S hI_o h0 to (xs (i + 1)) (xs (i + 2)) v fa hlw) (cwV 2 hts gL_law_X10_off rfl rfl rfl (by decide +kernel) ⟨(Nat.le_of_ble_eq_true rfl), (Nat.le_of_ble_eq_true rfl)⟩) (pr_V (r := (RX10, TX10, 16)) hPo hKo hDo q0 10 rfl hq0) rfl rfl hl.1 rfl (lv_room (Nat.le_of_ble_eq_true rfl)) dL_law_751 ⟨(show cells + 0 ≤ 600000 by omega), (show slots + 0 ≤ 7302250 by omega)⟩) hS (fun q _ h => hFc q h) hFc (fun r_6 u t H locs ht hvm w_5 hB hz1 hk1 hS => ?_)
  obtain ⟨S9, rfl⟩ : ∃ z, z = u := ⟨_, rfl⟩
  obtain ⟨hP1, hK1, hD1⟩ := hB
  rw [ht] at hP1
  have hH := lwH_o hH hFc hk1 hP1 hD1
  clear hP1 hK1 hD1
  obtain ⟨hI1, hX1, hp1⟩ := w_5
  clear hk1 hz1 hvm ht hFc
  refine lv_pop hx hb dL_law_754 rfl ?_
  refine lv_aload_n hx hb dL_law_755 rfl (lv_at hl 1 rfl) ?_
  refine lv_aload_n hx hb dL_law_756 rfl (lv_at hl 3 rfl) ?_
  refine lv_iload_n hx hb dL_law_757 rfl (lv_at hl 0 rfl) ?_
  refine lv_iconst (v := 1) hx hb dL_law_758 (by decide +kernel) ?_
  refine lv_iadd hx hb dL_law_759 ?_
  refine lv_topi (fun y_7 ey_7 => ?_)
  have hy_7 : y_7.toInt = (i : Int) + 1 := by rw [ey_7]; exact ad_i (nI_toInt (by omega)) (by decide +kernel) (by omega) (by omega)
  have ny_7 : y_7.toNatClampNeg = i + 1 := (show y_7.toInt.toNat = _ by omega)
  clear ey_7
  refine va_sld hx hb hX hbl hbA hS (vp_in_iff.mpr (by omega)) dL_law_760 ?_
  refine lv_topi (fun z_8 ez_8 => ?_)
  obtain rfl : z_8 = xs (i + 1) := ez_8.trans (by rw [ny_7])
  clear ny_7 hy_7
  refine lv_aload_n hx hb dL_law_761 rfl (lv_at hl 3 rfl) ?_
  refine lv_iload_n hx hb dL_law_762 rfl (lv_at hl 0 rfl) ?_
  refine lv_iconst (v := 2) hx hb dL_law_763 (by decide +kernel) ?_
  refine lv_iadd hx hb dL_law_764 ?_
  refine lv_topi (fun y_9 ey_9 => ?_)
  have hy_9 : y_9.toInt = (i : Int) + 2 := by rw [ey_9]; exact ad_i (nI_toInt (by omega)) (by decide +kernel) (by omega) (by omega)
  have ny_9 : y_9.toNatClampNeg = i + 2 := (show y_9.toInt.toNat = _ by omega)
  clear ey_9
  refine va_sld hx hb hX hbl hbA hS (vp_in_iff.mpr (by omega)) dL_law_765 ?_
  refine lv_topi (fun z_10 ez_10 => ?_)
  obtain rfl : z_10 = xs (i + 2) := ez_10.trans (by rw [ny_9])
  clear ny_9 hy_9
  obtain ⟨hI_o, to, gV, gA, hlw⟩ := id hJ
  obtain ⟨hPo, hDo, hPm, hDm, hdis⟩ := id hH
  have hFc := o_free hDm hS hA
  refine va_calli (va_runV (As := [.int (xs (i + 1)), .int (xs (i + 2))]) (rest := []) ⟨hx, hb, hml, hown, hts⟩ (c_X11_off_f l dC dI H.size g0 pq cp v fa gV gA (xs (i + 1)) (xs (i + 2))) (cwV 2 hts gL_law_X11_off rfl rfl rfl (by decide +kernel) ⟨(Nat.le_of_ble_eq_true rfl), (Nat.le_of_ble_eq_true rfl)⟩) (pr_V (r := (RX11, TX11, 63)) hPm hKm hDm 0 11 rfl rfl) rfl rfl hl.1 rfl (lv_room (Nat.le_of_ble_eq_true rfl)) dL_law_766 ⟨(show cells + 0 ≤ 600000 by omega), (show slots + 0 ≤ 7302250 by omega)⟩) hS (fun q _ h => hFc q h) hFc (fun r_12 u t H locs ht hvm w_11 hB hz1 hk1 hS => ?_)
  obtain ⟨v1, fa1⟩ := u
  obtain ⟨hP1, hK1, hD1⟩ := hB
  rw [ht] at hP1
  dsimp only at hP1 hD1
  have hH := lwH_m hH hFc hk1 hP1 hD1
  clear hP1 hK1 hD1
  obtain ⟨hV1, hA1, hm1, hq1⟩ := w_11
  dsimp only at hV1 hA1 hm1 hq1
  obtain ⟨er, hJ⟩ := lw_off hJ hI1 hX1 hp1 hV1 hA1 hm1 hq1 (by decide +kernel) (by decide +kernel)
  clear hk1 hz1 hvm ht hFc
  refine lv_pop hx hb dL_law_769 rfl ?_
  refine lv_goto (tgt := 1499) hx hb dL_law_770 (by decide +kernel) ?_
  refine W.widen (k := cells + 4) (n := slots + 134) (by omega) (by omega) ?_
  exact K _ _ _ _ _ _ hJ hH hS hl
