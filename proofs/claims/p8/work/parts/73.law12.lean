theorem gw_X10_feed : wsX10_feed.all goodWord = true := by decide +kernel
theorem gw_X10_act : wsX10_act.all goodWord = true := by decide +kernel
theorem gw_X11_feed : wsX11_feed.all goodWord = true := by decide +kernel
theorem gw_X11_act : wsX11_act.all goodWord = true := by decide +kernel
theorem il_L_law_3 : ∀ w ∈ wsL_law_r3, w ∈ wsL_law := fun w h => (List.mem_append_left _ (List.mem_append_left _ (List.mem_append_left _ (List.mem_append_left _ (List.mem_append_left _ (List.mem_append_left _ (List.mem_append_left _ (List.mem_append_left _ (List.mem_append_left _ (List.mem_append_left _ (List.mem_append_left _ (List.mem_append_left _ (List.mem_append_left _ (List.mem_append_right _ (List.mem_append_right _ (List.mem_append_left _ h))))))))))))))))
theorem il_L_law_18 : ∀ w ∈ wsL_law_r18, w ∈ wsL_law := fun w h => (List.mem_append_left _ (List.mem_append_left _ (List.mem_append_left _ (List.mem_append_left _ (List.mem_append_left _ (List.mem_append_left _ (List.mem_append_left _ (List.mem_append_left _ (List.mem_append_left _ (List.mem_append_left _ (List.mem_append_left _ (List.mem_append_left _ (List.mem_append_left _ (List.mem_append_right _ (List.mem_append_right _ (List.mem_append_right _ (List.mem_append_right _ (List.mem_append_right _ (List.mem_append_right _ (List.mem_append_right _ (List.mem_append_right _ (List.mem_append_right _ (List.mem_append_right _ (List.mem_append_right _ (List.mem_append_right _ (List.mem_append_right _ (List.mem_append_right _ (List.mem_append_right _ (List.mem_append_right _ (List.mem_append_right _ (List.mem_append_left _ h)))))))))))))))))))))))))))))))
theorem il_L_law_19 : ∀ w ∈ wsL_law_r19, w ∈ wsL_law := fun w h => (List.mem_append_left _ (List.mem_append_left _ (List.mem_append_left _ (List.mem_append_left _ (List.mem_append_left _ (List.mem_append_left _ (List.mem_append_left _ (List.mem_append_left _ (List.mem_append_left _ (List.mem_append_left _ (List.mem_append_left _ (List.mem_append_left _ (List.mem_append_left _ (List.mem_append_right _ (List.mem_append_right _ (List.mem_append_right _ (List.mem_append_right _ (List.mem_append_right _ (List.mem_append_right _ (List.mem_append_right _ (List.mem_append_right _ (List.mem_append_right _ (List.mem_append_right _ (List.mem_append_right _ (List.mem_append_right _ (List.mem_append_right _ (List.mem_append_right _ (List.mem_append_right _ (List.mem_append_right _ (List.mem_append_right _ (List.mem_append_right _ (List.mem_append_left _ h))))))))))))))))))))))))))))))))
theorem il_L_law_20 : ∀ w ∈ wsL_law_r20, w ∈ wsL_law := fun w h => (List.mem_append_left _ (List.mem_append_left _ (List.mem_append_left _ (List.mem_append_left _ (List.mem_append_left _ (List.mem_append_left _ (List.mem_append_left _ (List.mem_append_left _ (List.mem_append_left _ (List.mem_append_left _ (List.mem_append_left _ (List.mem_append_left _ (List.mem_append_left _ (List.mem_append_right _ (List.mem_append_right _ (List.mem_append_right _ (List.mem_append_right _ (List.mem_append_right _ (List.mem_append_right _ (List.mem_append_right _ (List.mem_append_right _ (List.mem_append_right _ (List.mem_append_right _ (List.mem_append_right _ (List.mem_append_right _ (List.mem_append_right _ (List.mem_append_right _ (List.mem_append_right _ (List.mem_append_right _ (List.mem_append_right _ (List.mem_append_right _ (List.mem_append_right _ (List.mem_append_left _ h)))))))))))))))))))))))))))))))))
theorem il_L_law_21 : ∀ w ∈ wsL_law_r21, w ∈ wsL_law := fun w h => (List.mem_append_left _ (List.mem_append_left _ (List.mem_append_left _ (List.mem_append_left _ (List.mem_append_left _ (List.mem_append_left _ (List.mem_append_left _ (List.mem_append_left _ (List.mem_append_left _ (List.mem_append_left _ (List.mem_append_left _ (List.mem_append_left _ (List.mem_append_left _ (List.mem_append_right _ (List.mem_append_right _ (List.mem_append_right _ (List.mem_append_right _ (List.mem_append_right _ (List.mem_append_right _ (List.mem_append_right _ (List.mem_append_right _ (List.mem_append_right _ (List.mem_append_right _ (List.mem_append_right _ (List.mem_append_right _ (List.mem_append_right _ (List.mem_append_right _ (List.mem_append_right _ (List.mem_append_right _ (List.mem_append_right _ (List.mem_append_right _ (List.mem_append_right _ (List.mem_append_right _ (List.mem_append_left _ h))))))))))))))))))))))))))))))))))
theorem il_L_law_22 : ∀ w ∈ wsL_law_r22, w ∈ wsL_law := fun w h => (List.mem_append_left _ (List.mem_append_left _ (List.mem_append_left _ (List.mem_append_left _ (List.mem_append_left _ (List.mem_append_left _ (List.mem_append_left _ (List.mem_append_left _ (List.mem_append_left _ (List.mem_append_left _ (List.mem_append_left _ (List.mem_append_left _ (List.mem_append_left _ (List.mem_append_right _ (List.mem_append_right _ (List.mem_append_right _ (List.mem_append_right _ (List.mem_append_right _ (List.mem_append_right _ (List.mem_append_right _ (List.mem_append_right _ (List.mem_append_right _ (List.mem_append_right _ (List.mem_append_right _ (List.mem_append_right _ (List.mem_append_right _ (List.mem_append_right _ (List.mem_append_right _ (List.mem_append_right _ (List.mem_append_right _ (List.mem_append_right _ (List.mem_append_right _ (List.mem_append_right _ (List.mem_append_right _ (List.mem_append_left _ h)))))))))))))))))))))))))))))))))))
theorem il_L_law_23 : ∀ w ∈ wsL_law_r23, w ∈ wsL_law := fun w h => (List.mem_append_left _ (List.mem_append_left _ (List.mem_append_left _ (List.mem_append_left _ (List.mem_append_left _ (List.mem_append_left _ (List.mem_append_left _ (List.mem_append_left _ (List.mem_append_left _ (List.mem_append_left _ (List.mem_append_left _ (List.mem_append_left _ (List.mem_append_left _ (List.mem_append_right _ (List.mem_append_right _ (List.mem_append_right _ (List.mem_append_right _ (List.mem_append_right _ (List.mem_append_right _ (List.mem_append_right _ (List.mem_append_right _ (List.mem_append_right _ (List.mem_append_right _ (List.mem_append_right _ (List.mem_append_right _ (List.mem_append_right _ (List.mem_append_right _ (List.mem_append_right _ (List.mem_append_right _ (List.mem_append_right _ (List.mem_append_right _ (List.mem_append_right _ (List.mem_append_right _ (List.mem_append_right _ (List.mem_append_right _ (List.mem_append_left _ h))))))))))))))))))))))))))))))))))))
theorem il_L_law_49 : ∀ w ∈ wsX50, w ∈ wsL_law := fun w h => (List.mem_append_left _ (List.mem_append_left _ (List.mem_append_left _ (List.mem_append_left _ (List.mem_append_left _ (List.mem_append_left _ (List.mem_append_left _ (List.mem_append_left _ (List.mem_append_left _ (List.mem_append_left _ (List.mem_append_right _ h)))))))))))
theorem il_L_law_50 : ∀ w ∈ wsX80, w ∈ wsL_law := fun w h => (List.mem_append_left _ (List.mem_append_left _ (List.mem_append_left _ (List.mem_append_left _ (List.mem_append_left _ (List.mem_append_left _ (List.mem_append_left _ (List.mem_append_left _ (List.mem_append_left _ (List.mem_append_right _ h))))))))))
theorem il_L_law_53 : ∀ w ∈ wsX00, w ∈ wsL_law := fun w h => (List.mem_append_left _ (List.mem_append_left _ (List.mem_append_left _ (List.mem_append_left _ (List.mem_append_left _ (List.mem_append_left _ (List.mem_append_right _ h)))))))
set_option maxRecDepth 100000 in
theorem ggL_law_X10_feed : GoodIn wsL_law wsX10_feed := goodIn_sub (mmC (mmI il_L_law_17 23 rfl) (mmA (mmA (mmC (mmI il_L_law_2 2 rfl) (mmC (mmI il_L_law_18 0 rfl) (mmC (mmI il_L_law_18 1 rfl) (mmC (mmI il_L_law_7 5 rfl) (mmC (mmI il_L_law_7 6 rfl) (mmC (mmI il_L_law_7 7 rfl) (mmC (mmI il_L_law_1 2 rfl) (mmC (mmI il_L_law_7 8 rfl) (mmC (mmI il_L_law_2 15 rfl) (mmC (mmI il_L_law_18 2 rfl) (mmC (mmI il_L_law_18 3 rfl) (mmC (mmI il_L_law_18 4 rfl) (mmC (mmI il_L_law_2 1 rfl) (mmC (mmI il_L_law_18 5 rfl) (mmC (mmI il_L_law_18 6 rfl) (mmC (mmI il_L_law_4 4 rfl) mmN)))))))))))))))) il_L_law_47) il_L_law_50)) gw_X10_feed
theorem gL_law_X10_feed : GoodIn wsL_law (wsV RL 63 RX10 yX10_feed wsX10_feed) := goodIn_app (goodIn_sub (mmC (mmI il_L_law_17 20 rfl) (mmC (mmI il_L_law_17 21 rfl) (mmC (mmI il_L_law_17 22 rfl) (mmC (mmI il_L_law_1 2 rfl) mmN)))) (by decide +kernel)) ggL_law_X10_feed
set_option maxRecDepth 100000 in
theorem ggL_law_X11_feed : GoodIn wsL_law wsX11_feed := goodIn_sub (mmC (mmI il_L_law_18 10 rfl) (mmA (mmC (mmI il_L_law_18 11 rfl) (mmC (mmI il_L_law_6 15 rfl) (mmC (mmI il_L_law_18 12 rfl) (mmC (mmI il_L_law_7 14 rfl) (mmC (mmI il_L_law_7 15 rfl) (mmC (mmI il_L_law_7 16 rfl) (mmC (mmI il_L_law_1 5 rfl) (mmC (mmI il_L_law_7 17 rfl) (mmC (mmI il_L_law_5 0 rfl) mmN))))))))) il_L_law_48)) gw_X11_feed
theorem gL_law_X11_feed : GoodIn wsL_law (wsV RL 67 RX11 yX11_feed wsX11_feed) := goodIn_app (goodIn_sub (mmC (mmI il_L_law_18 7 rfl) (mmC (mmI il_L_law_18 8 rfl) (mmC (mmI il_L_law_18 9 rfl) (mmC (mmI il_L_law_1 5 rfl) mmN)))) (by decide +kernel)) ggL_law_X11_feed
set_option maxRecDepth 100000 in
theorem ggL_law_X10_act : GoodIn wsL_law wsX10_act := goodIn_sub (mmC (mmI il_L_law_18 16 rfl) (mmA (mmA (mmA (mmA (mmA (mmC (mmI il_L_law_7 4 rfl) (mmC (mmI il_L_law_1 22 rfl) (mmC (mmI il_L_law_18 17 rfl) (mmC (mmI il_L_law_2 2 rfl) (mmC (mmI il_L_law_18 18 rfl) (mmC (mmI il_L_law_2 23 rfl) (mmC (mmI il_L_law_3 0 rfl) (mmC (mmI il_L_law_18 19 rfl) (mmC (mmI il_L_law_18 20 rfl) (mmC (mmI il_L_law_18 0 rfl) (mmC (mmI il_L_law_7 5 rfl) (mmC (mmI il_L_law_7 6 rfl) (mmC (mmI il_L_law_7 7 rfl) (mmC (mmI il_L_law_1 2 rfl) (mmC (mmI il_L_law_7 8 rfl) (mmC (mmI il_L_law_2 15 rfl) (mmC (mmI il_L_law_18 21 rfl) (mmC (mmI il_L_law_18 22 rfl) (mmC (mmI il_L_law_18 23 rfl) (mmC (mmI il_L_law_2 1 rfl) (mmC (mmI il_L_law_19 0 rfl) (mmC (mmI il_L_law_19 1 rfl) (mmC (mmI il_L_law_19 2 rfl) (mmC (mmI il_L_law_19 3 rfl) mmN)))))))))))))))))))))))) (mmA (mmC (mmI il_L_law_18 6 rfl) (mmC (mmI il_L_law_19 4 rfl) (mmC (mmI il_L_law_19 5 rfl) (mmC (mmI il_L_law_19 6 rfl) (mmC (mmI il_L_law_19 7 rfl) (mmC (mmI il_L_law_4 4 rfl) (mmC (mmI il_L_law_19 8 rfl) (mmC (mmI il_L_law_19 9 rfl) (mmC (mmI il_L_law_19 10 rfl) (mmC (mmI il_L_law_19 11 rfl) (mmC (mmI il_L_law_19 12 rfl) (mmC (mmI il_L_law_19 13 rfl) (mmC (mmI il_L_law_19 14 rfl) (mmC (mmI il_L_law_19 15 rfl) (mmC (mmI il_L_law_19 16 rfl) (mmC (mmI il_L_law_19 17 rfl) (mmC (mmI il_L_law_19 18 rfl) (mmC (mmI il_L_law_19 19 rfl) (mmC (mmI il_L_law_19 20 rfl) (mmC (mmI il_L_law_19 21 rfl) (mmC (mmI il_L_law_19 22 rfl) (mmC (mmI il_L_law_19 23 rfl) (mmC (mmI il_L_law_4 5 rfl) (mmC (mmI il_L_law_20 0 rfl) mmN)))))))))))))))))))))))) (mmA (mmC (mmI il_L_law_20 1 rfl) (mmC (mmI il_L_law_20 2 rfl) (mmC (mmI il_L_law_20 3 rfl) (mmC (mmI il_L_law_20 4 rfl) (mmC (mmI il_L_law_20 5 rfl) (mmC (mmI il_L_law_20 6 rfl) (mmC (mmI il_L_law_20 7 rfl) (mmC (mmI il_L_law_20 8 rfl) (mmC (mmI il_L_law_20 9 rfl) (mmC (mmI il_L_law_20 10 rfl) (mmC (mmI il_L_law_20 11 rfl) (mmC (mmI il_L_law_20 12 rfl) (mmC (mmI il_L_law_20 13 rfl) (mmC (mmI il_L_law_20 14 rfl) (mmC (mmI il_L_law_20 15 rfl) (mmC (mmI il_L_law_20 16 rfl) (mmC (mmI il_L_law_20 17 rfl) (mmC (mmI il_L_law_20 18 rfl) (mmC (mmI il_L_law_20 19 rfl) (mmC (mmI il_L_law_20 20 rfl) (mmC (mmI il_L_law_20 21 rfl) (mmC (mmI il_L_law_20 22 rfl) (mmC (mmI il_L_law_20 23 rfl) (mmC (mmI il_L_law_21 0 rfl) mmN)))))))))))))))))))))))) (mmA (mmC (mmI il_L_law_21 1 rfl) (mmC (mmI il_L_law_21 2 rfl) (mmC (mmI il_L_law_21 3 rfl) (mmC (mmI il_L_law_21 4 rfl) (mmC (mmI il_L_law_21 5 rfl) (mmC (mmI il_L_law_21 6 rfl) (mmC (mmI il_L_law_2 12 rfl) (mmC (mmI il_L_law_21 7 rfl) (mmC (mmI il_L_law_10 2 rfl) (mmC (mmI il_L_law_10 3 rfl) (mmC (mmI il_L_law_10 4 rfl) (mmC (mmI il_L_law_21 8 rfl) (mmC (mmI il_L_law_21 9 rfl) (mmC (mmI il_L_law_21 10 rfl) (mmC (mmI il_L_law_21 11 rfl) (mmC (mmI il_L_law_21 12 rfl) (mmC (mmI il_L_law_3 2 rfl) (mmC (mmI il_L_law_3 3 rfl) (mmC (mmI il_L_law_3 4 rfl) (mmC (mmI il_L_law_1 11 rfl) (mmC (mmI il_L_law_1 12 rfl) (mmC (mmI il_L_law_3 5 rfl) (mmC (mmI il_L_law_3 6 rfl) (mmC (mmI il_L_law_3 7 rfl) mmN)))))))))))))))))))))))) (mmC (mmI il_L_law_3 8 rfl) (mmC (mmI il_L_law_3 9 rfl) (mmC (mmI il_L_law_3 10 rfl) (mmC (mmI il_L_law_3 11 rfl) (mmC (mmI il_L_law_3 12 rfl) (mmC (mmI il_L_law_3 13 rfl) (mmC (mmI il_L_law_3 14 rfl) (mmC (mmI il_L_law_3 15 rfl) (mmC (mmI il_L_law_3 16 rfl) (mmC (mmI il_L_law_3 17 rfl) (mmC (mmI il_L_law_3 18 rfl) (mmC (mmI il_L_law_3 19 rfl) (mmC (mmI il_L_law_3 20 rfl) (mmC (mmI il_L_law_3 21 rfl) (mmC (mmI il_L_law_3 22 rfl) (mmC (mmI il_L_law_3 23 rfl) (mmC (mmI il_L_law_21 13 rfl) (mmC (mmI il_L_law_21 14 rfl) (mmC (mmI il_L_law_21 15 rfl) (mmC (mmI il_L_law_1 21 rfl) (mmC (mmI il_L_law_21 16 rfl) (mmC (mmI il_L_law_21 17 rfl) (mmC (mmI il_L_law_2 21 rfl) mmN))))))))))))))))))))))))))) il_L_law_47) il_L_law_49) il_L_law_53) il_L_law_50)) gw_X10_act
theorem gL_law_X10_act : GoodIn wsL_law (wsV RL 68 RX10 yX10_act wsX10_act) := goodIn_app (goodIn_sub (mmC (mmI il_L_law_18 13 rfl) (mmC (mmI il_L_law_18 14 rfl) (mmC (mmI il_L_law_18 15 rfl) (mmC (mmI il_L_law_1 2 rfl) mmN)))) (by decide +kernel)) ggL_law_X10_act
set_option maxRecDepth 100000 in
theorem ggL_law_X11_act : GoodIn wsL_law wsX11_act := goodIn_sub (mmC (mmI il_L_law_21 21 rfl) (mmA (mmA (mmC (mmI il_L_law_7 13 rfl) (mmC (mmI il_L_law_21 22 rfl) (mmC (mmI il_L_law_18 11 rfl) (mmC (mmI il_L_law_21 23 rfl) (mmC (mmI il_L_law_22 0 rfl) (mmC (mmI il_L_law_5 19 rfl) (mmC (mmI il_L_law_6 15 rfl) (mmC (mmI il_L_law_5 16 rfl) (mmC (mmI il_L_law_5 17 rfl) (mmC (mmI il_L_law_5 18 rfl) (mmC (mmI il_L_law_8 12 rfl) (mmC (mmI il_L_law_8 13 rfl) (mmC (mmI il_L_law_1 5 rfl) (mmC (mmI il_L_law_8 14 rfl) (mmC (mmI il_L_law_7 14 rfl) (mmC (mmI il_L_law_7 15 rfl) (mmC (mmI il_L_law_7 16 rfl) (mmC (mmI il_L_law_7 17 rfl) (mmC (mmI il_L_law_5 0 rfl) (mmC (mmI il_L_law_22 1 rfl) (mmC (mmI il_L_law_22 2 rfl) (mmC (mmI il_L_law_22 3 rfl) (mmC (mmI il_L_law_22 4 rfl) (mmC (mmI il_L_law_22 5 rfl) mmN)))))))))))))))))))))))) (mmA (mmC (mmI il_L_law_22 6 rfl) (mmC (mmI il_L_law_22 7 rfl) (mmC (mmI il_L_law_22 8 rfl) (mmC (mmI il_L_law_22 9 rfl) (mmC (mmI il_L_law_22 10 rfl) (mmC (mmI il_L_law_22 11 rfl) (mmC (mmI il_L_law_22 12 rfl) (mmC (mmI il_L_law_22 13 rfl) (mmC (mmI il_L_law_22 14 rfl) (mmC (mmI il_L_law_22 15 rfl) (mmC (mmI il_L_law_22 16 rfl) (mmC (mmI il_L_law_22 17 rfl) (mmC (mmI il_L_law_22 18 rfl) (mmC (mmI il_L_law_22 19 rfl) (mmC (mmI il_L_law_22 20 rfl) (mmC (mmI il_L_law_22 21 rfl) (mmC (mmI il_L_law_22 22 rfl) (mmC (mmI il_L_law_22 23 rfl) (mmC (mmI il_L_law_23 0 rfl) (mmC (mmI il_L_law_23 1 rfl) (mmC (mmI il_L_law_23 2 rfl) (mmC (mmI il_L_law_23 3 rfl) (mmC (mmI il_L_law_23 4 rfl) (mmC (mmI il_L_law_6 16 rfl) mmN)))))))))))))))))))))))) (mmC (mmI il_L_law_23 5 rfl) (mmC (mmI il_L_law_23 6 rfl) (mmC (mmI il_L_law_23 7 rfl) (mmC (mmI il_L_law_23 8 rfl) (mmC (mmI il_L_law_23 9 rfl) (mmC (mmI il_L_law_23 10 rfl) (mmC (mmI il_L_law_23 11 rfl) (mmC (mmI il_L_law_23 12 rfl) (mmC (mmI il_L_law_23 13 rfl) (mmC (mmI il_L_law_23 14 rfl) (mmC (mmI il_L_law_23 15 rfl) mmN))))))))))))) il_L_law_48)) gw_X11_act
theorem gL_law_X11_act : GoodIn wsL_law (wsV RL 71 RX11 yX11_act wsX11_act) := goodIn_app (goodIn_sub (mmC (mmI il_L_law_21 18 rfl) (mmC (mmI il_L_law_21 19 rfl) (mmC (mmI il_L_law_21 20 rfl) (mmC (mmI il_L_law_1 5 rfl) mmN)))) (by decide +kernel)) ggL_law_X11_act
theorem dL_law_581 : decode cL_law 581 = .ok (.aload_n 1, 1) := by decide +kernel
theorem dL_law_582 : decode cL_law 582 = .ok (.aload_n 0, 1) := by decide +kernel
theorem dL_law_583 : decode cL_law 583 = .ok (.iload_n 3, 1) := by decide +kernel
theorem dL_law_584 : decode cL_law 584 = .ok (.iconst 1, 1) := by decide +kernel
theorem dL_law_585 : decode cL_law 585 = .ok (.iadd, 1) := by decide +kernel
theorem dL_law_586 : decode cL_law 586 = .ok (.iaload, 1) := by decide +kernel
theorem dL_law_587 : decode cL_law 587 = .ok (.aload_n 0, 1) := by decide +kernel
theorem dL_law_588 : decode cL_law 588 = .ok (.iload_n 3, 1) := by decide +kernel
theorem dL_law_589 : decode cL_law 589 = .ok (.iconst 2, 1) := by decide +kernel
theorem dL_law_590 : decode cL_law 590 = .ok (.iadd, 1) := by decide +kernel
theorem dL_law_591 : decode cL_law 591 = .ok (.iaload, 1) := by decide +kernel
theorem dL_law_592 : decode cL_law 592 = .ok (.i2l, 1) := by decide +kernel
theorem dL_law_593 : decode cL_law 593 = .ok (.bipush 32, 2) := by decide +kernel
theorem dL_law_595 : decode cL_law 595 = .ok (.lshl, 1) := by decide +kernel
theorem dL_law_596 : decode cL_law 596 = .ok (.aload_n 0, 1) := by decide +kernel
theorem dL_law_597 : decode cL_law 597 = .ok (.iload_n 3, 1) := by decide +kernel
theorem dL_law_598 : decode cL_law 598 = .ok (.iconst 3, 1) := by decide +kernel
theorem dL_law_599 : decode cL_law 599 = .ok (.iadd, 1) := by decide +kernel
theorem dL_law_600 : decode cL_law 600 = .ok (.iaload, 1) := by decide +kernel
theorem dL_law_601 : decode cL_law 601 = .ok (.i2l, 1) := by decide +kernel
theorem dL_law_602 : decode cL_law 602 = .ok (.ldc2_w 61, 3) := by decide +kernel
theorem dL_law_605 : decode cL_law 605 = .ok (.land, 1) := by decide +kernel
theorem dL_law_606 : decode cL_law 606 = .ok (.lor, 1) := by decide +kernel
theorem dL_law_607 : decode cL_law 607 = .ok (.invokevirtual 63, 3) := by decide +kernel
theorem dL_law_610 : decode cL_law 610 = .ok (.pop, 1) := by decide +kernel
theorem dL_law_611 : decode cL_law 611 = .ok (.aload_n 2, 1) := by decide +kernel
theorem dL_law_612 : decode cL_law 612 = .ok (.aload_n 0, 1) := by decide +kernel
theorem dL_law_613 : decode cL_law 613 = .ok (.iload_n 3, 1) := by decide +kernel
theorem dL_law_614 : decode cL_law 614 = .ok (.iconst 1, 1) := by decide +kernel
theorem dL_law_615 : decode cL_law 615 = .ok (.iadd, 1) := by decide +kernel
theorem dL_law_616 : decode cL_law 616 = .ok (.iaload, 1) := by decide +kernel
theorem dL_law_617 : decode cL_law 617 = .ok (.aload_n 0, 1) := by decide +kernel
theorem dL_law_618 : decode cL_law 618 = .ok (.iload_n 3, 1) := by decide +kernel
theorem dL_law_619 : decode cL_law 619 = .ok (.iconst 2, 1) := by decide +kernel
theorem dL_law_620 : decode cL_law 620 = .ok (.iadd, 1) := by decide +kernel
theorem dL_law_621 : decode cL_law 621 = .ok (.iaload, 1) := by decide +kernel
theorem dL_law_622 : decode cL_law 622 = .ok (.i2l, 1) := by decide +kernel
theorem dL_law_623 : decode cL_law 623 = .ok (.bipush 32, 2) := by decide +kernel
theorem dL_law_625 : decode cL_law 625 = .ok (.lshl, 1) := by decide +kernel
theorem dL_law_626 : decode cL_law 626 = .ok (.aload_n 0, 1) := by decide +kernel
theorem dL_law_627 : decode cL_law 627 = .ok (.iload_n 3, 1) := by decide +kernel
theorem dL_law_628 : decode cL_law 628 = .ok (.iconst 3, 1) := by decide +kernel
theorem dL_law_629 : decode cL_law 629 = .ok (.iadd, 1) := by decide +kernel
theorem dL_law_630 : decode cL_law 630 = .ok (.iaload, 1) := by decide +kernel
theorem dL_law_631 : decode cL_law 631 = .ok (.i2l, 1) := by decide +kernel
theorem dL_law_632 : decode cL_law 632 = .ok (.ldc2_w 61, 3) := by decide +kernel
theorem dL_law_635 : decode cL_law 635 = .ok (.land, 1) := by decide +kernel
theorem dL_law_636 : decode cL_law 636 = .ok (.lor, 1) := by decide +kernel
theorem dL_law_637 : decode cL_law 637 = .ok (.invokevirtual 67, 3) := by decide +kernel
theorem dL_law_640 : decode cL_law 640 = .ok (.pop, 1) := by decide +kernel
theorem dL_law_641 : decode cL_law 641 = .ok (.goto 858, 3) := by decide +kernel
theorem dL_law_644 : decode cL_law 644 = .ok (.aload_n 1, 1) := by decide +kernel
theorem dL_law_645 : decode cL_law 645 = .ok (.aload_n 0, 1) := by decide +kernel
theorem dL_law_646 : decode cL_law 646 = .ok (.iload_n 3, 1) := by decide +kernel
theorem dL_law_647 : decode cL_law 647 = .ok (.iconst 1, 1) := by decide +kernel
theorem dL_law_648 : decode cL_law 648 = .ok (.iadd, 1) := by decide +kernel
theorem dL_law_649 : decode cL_law 649 = .ok (.iaload, 1) := by decide +kernel
theorem dL_law_650 : decode cL_law 650 = .ok (.aload_n 0, 1) := by decide +kernel
theorem dL_law_651 : decode cL_law 651 = .ok (.iload_n 3, 1) := by decide +kernel
theorem dL_law_652 : decode cL_law 652 = .ok (.iconst 2, 1) := by decide +kernel
theorem dL_law_653 : decode cL_law 653 = .ok (.iadd, 1) := by decide +kernel
theorem dL_law_654 : decode cL_law 654 = .ok (.iaload, 1) := by decide +kernel
theorem dL_law_655 : decode cL_law 655 = .ok (.invokevirtual 68, 3) := by decide +kernel
theorem dL_law_658 : decode cL_law 658 = .ok (.pop, 1) := by decide +kernel
theorem dL_law_659 : decode cL_law 659 = .ok (.aload_n 2, 1) := by decide +kernel
theorem dL_law_660 : decode cL_law 660 = .ok (.aload_n 0, 1) := by decide +kernel
theorem dL_law_661 : decode cL_law 661 = .ok (.iload_n 3, 1) := by decide +kernel
theorem dL_law_662 : decode cL_law 662 = .ok (.iconst 1, 1) := by decide +kernel
theorem dL_law_663 : decode cL_law 663 = .ok (.iadd, 1) := by decide +kernel
theorem dL_law_664 : decode cL_law 664 = .ok (.iaload, 1) := by decide +kernel
theorem dL_law_665 : decode cL_law 665 = .ok (.aload_n 0, 1) := by decide +kernel
theorem dL_law_666 : decode cL_law 666 = .ok (.iload_n 3, 1) := by decide +kernel
theorem dL_law_667 : decode cL_law 667 = .ok (.iconst 2, 1) := by decide +kernel
theorem dL_law_668 : decode cL_law 668 = .ok (.iadd, 1) := by decide +kernel
theorem dL_law_669 : decode cL_law 669 = .ok (.iaload, 1) := by decide +kernel
theorem dL_law_670 : decode cL_law 670 = .ok (.invokevirtual 71, 3) := by decide +kernel
theorem dL_law_673 : decode cL_law 673 = .ok (.pop, 1) := by decide +kernel
theorem dL_law_674 : decode cL_law 674 = .ok (.goto 825, 3) := by decide +kernel


set_option maxHeartbeats 4000000 in
set_option maxRecDepth 100000 in
theorem lc_11 {p : Program} {l : Launch} {e : Env} {s : State} {m : MethodId} {below : List Frame} {meth : Method} {c : Code} {b L : Nat} {xs : Nat → Int32} {A : Nat → Prop} {dC : Nat → ClassId} {dI : Nat → Nat → Nat} {tL tS tG h0 g0 : Nat} {pq : Nat → Nat} {cq cp : Nat → ClassId} (C0 : lw_At p s m meth c b L xs) (hL : L ≤ 3072) (hA : ∀ q : Nat, s.heap.size ≤ q → A q) (hAq : ∀ q, A q → s.heap.size ≤ q) (hZ : stO A tL tS tG s s.heap) (hKo : va_K (dC, dI) vwCl (oT cq) s) (hKm : va_K (dC, dI) vwCl (mT cp) s) {S : oS} {v : Nat → Int32} {fa : Nat → Nat → Int32} {H : Heap} {locs : List Loc} {i cells slots : Nat} (hi : i + 6 ≤ L) (hcl : cells ≤ 500000) (hsl : slots ≤ 7000000) (hJ : lwI S h0 v fa) (hH : lwH (dC, dI) A cq cp g0 pq S v fa H) (hS : va_S A s.heap H locs) {ls : Array Slot} (hl : lv_has ls 4 [(3, .int (nI i)), (2, .ref g0), (1, .ref h0), (0, .ref b)]) (K : (∀ (S1 : oS) (v1 : Nat → Int32) (fa1 : Nat → Nat → Int32) (H1 : Heap) (locs1 : List Loc) (ls1 : Array Slot), lwI S1 h0 v1 fa1 → lwH (dC, dI) A cq cp g0 pq S1 v1 fa1 H1 → va_S A s.heap H1 locs1 → lv_has ls1 4 [(3, .int (nI i)), (2, .ref g0), (1, .ref h0), (0, .ref b)] → W p l e room_1 s m #[Value.ref b] below meth c H1 locs1 (cells + 4) (slots + 134) (lw_Z below #[Value.ref b] s) (F0 m 1499 ls1 []))) : W p l e room_1 s m #[Value.ref b] below meth c H locs cells slots (lw_Z below #[Value.ref b] s) (F0 m 581 ls []) := by
  obtain ⟨hx, hb, hr, hml, hown, hts, hX, hbl, hlocks, hgv⟩ := id C0
  have hts := fun w h => hts w (wsL_law_in w h)
  have hown : s.vm.findClass RL = some m.cls := hown
  have hbA : ¬ A b := fun h => Nat.not_le.mpr hbl (hAq b h)
  refine lv_aload_n hx hb dL_law_581 rfl (lv_at hl 2 rfl) ?_
  refine lv_aload_n hx hb dL_law_582 rfl (lv_at hl 3 rfl) ?_
  refine lv_iload_n hx hb dL_law_583 rfl (lv_at hl 0 rfl) ?_
  refine lv_iconst (v := 1) hx hb dL_law_584 (by decide +kernel) ?_
  refine lv_iadd hx hb dL_law_585 ?_
  refine lv_topi (fun y_1 ey_1 => ?_)
  have hy_1 : y_1.toInt = (i : Int) + 1 := by rw [ey_1]; exact ad_i (nI_toInt (by omega)) (by decide +kernel) (by omega) (by omega)
  have ny_1 : y_1.toNatClampNeg = i + 1 := (show y_1.toInt.toNat = _ by omega)
  clear ey_1
  refine va_sld hx hb hX hbl hbA hS (vp_in_iff.mpr (by omega)) dL_law_586 ?_
  refine lv_topi (fun z_2 ez_2 => ?_)
  obtain rfl : z_2 = xs (i + 1) := ez_2.trans (by rw [ny_1])
  clear ny_1 hy_1
  refine lv_aload_n hx hb dL_law_587 rfl (lv_at hl 3 rfl) ?_
  refine lv_iload_n hx hb dL_law_588 rfl (lv_at hl 0 rfl) ?_
  refine lv_iconst (v := 2) hx hb dL_law_589 (by decide +kernel) ?_
  refine lv_iadd hx hb dL_law_590 ?_
  refine lv_topi (fun y_3 ey_3 => ?_)
  have hy_3 : y_3.toInt = (i : Int) + 2 := by rw [ey_3]; exact ad_i (nI_toInt (by omega)) (by decide +kernel) (by omega) (by omega)
  have ny_3 : y_3.toNatClampNeg = i + 2 := (show y_3.toInt.toNat = _ by omega)
  clear ey_3
  refine va_sld hx hb hX hbl hbA hS (vp_in_iff.mpr (by omega)) dL_law_591 ?_
  refine lv_topi (fun z_4 ez_4 => ?_)
  obtain rfl : z_4 = xs (i + 2) := ez_4.trans (by rw [ny_3])
  clear ny_3 hy_3
  refine lv_i2l (v := (xs (i + 2) : Int32).toInt64) hx hb dL_law_592 rfl ?_
  refine lv_bipush (v := 32) hx hb dL_law_593 (by decide +kernel) ?_
  refine lv_lshl (v := ((xs (i + 2) : Int32).toInt64) <<< ((32 : Int32).toInt64 &&& 63)) hx hb dL_law_595 rfl ?_
  refine lv_aload_n hx hb dL_law_596 rfl (lv_at hl 3 rfl) ?_
  refine lv_iload_n hx hb dL_law_597 rfl (lv_at hl 0 rfl) ?_
  refine lv_iconst (v := 3) hx hb dL_law_598 (by decide +kernel) ?_
  refine lv_iadd hx hb dL_law_599 ?_
  refine lv_topi (fun y_5 ey_5 => ?_)
  have hy_5 : y_5.toInt = (i : Int) + 3 := by rw [ey_5]; exact ad_i (nI_toInt (by omega)) (by decide +kernel) (by omega) (by omega)
  have ny_5 : y_5.toNatClampNeg = i + 3 := (show y_5.toInt.toNat = _ by omega)
  clear ey_5
  refine va_sld hx hb hX hbl hbA hS (vp_in_iff.mpr (by omega)) dL_law_600 ?_
  refine lv_topi (fun z_6 ez_6 => ?_)
  obtain rfl : z_6 = xs (i + 3) := ez_6.trans (by rw [ny_5])
  clear ny_5 hy_5
  refine lv_i2l (v := (xs (i + 3) : Int32).toInt64) hx hb dL_law_601 rfl ?_
  refine lv_ldc2 (v := 4294967295) hx hb hown (hts (.constantLong RL 61 (4294967295)) (by decide +kernel)) dL_law_602 ?_
  refine lv_land hx hb dL_law_605 ?_
  refine lv_lor hx hb dL_law_606 ?_
  obtain ⟨hI_o, to, gV, gA, hlw⟩ := id hJ
  obtain ⟨hPo, hDo, hPm, hDm, hdis⟩ := id hH
  have hFc := o_free hDo hS hA
  obtain ⟨q0, hq0⟩ := og (cq := cq) to.1 (oE_10 to.2)
  obtain ⟨tp, htp⟩ := oInv.nn (i := 9) hI_o to rfl
  have ttp : oty S tp 8 := oInv.rd hI_o to.2 htp rfl rfl
  obtain ⟨rw_, hrw⟩ := oInv.nn (i := 0) hI_o ttp rfl
  refine va_calli (va_runV (As := [.int (xs (i + 1)), .long ((((xs (i + 2) : Int32).toInt64) <<< ((32 : Int32).toInt64 &&& 63)) ||| (((xs (i + 3) : Int32).toInt64) &&& 4294967295))]) (rest := []) ⟨hx, hb, hml, hown, hts⟩ (c_X10_feed_f l dC dI H.size cq S hI_o h0 to (xs (i + 1)) ((((xs (i + 2) : Int32).toInt64) <<< ((32 : Int32).toInt64 &&& 63)) ||| (((xs (i + 3) : Int32).toInt64) &&& 4294967295)) tp rw_ htp hrw) (cwV 2 hts gL_law_X10_feed rfl rfl rfl (by decide +kernel) ⟨(Nat.le_of_ble_eq_true rfl), (Nat.le_of_ble_eq_true rfl)⟩) (pr_V (r := (RX10, TX10, 16)) hPo hKo hDo q0 10 rfl hq0) rfl rfl hl.1 rfl (lv_room (Nat.le_of_ble_eq_true rfl)) dL_law_607 ⟨(show cells + 0 ≤ 600000 by omega), (show slots + 0 ≤ 7302250 by omega)⟩) hS (fun q _ h => hFc q h) hFc (fun r_8 u t H locs ht hvm w_7 hB hz1 hk1 hS => ?_)
  obtain ⟨S9, rfl⟩ : ∃ z, z = u := ⟨_, rfl⟩
  obtain ⟨hP1, hK1, hD1⟩ := hB
  rw [ht] at hP1
  have hH := lwH_o hH hFc hk1 hP1 hD1
  clear hP1 hK1 hD1
  obtain ⟨hI1, hX1, hp1⟩ := w_7
  clear hk1 hz1 hvm ht hFc
  refine lv_pop hx hb dL_law_610 rfl ?_
  refine lv_aload_n hx hb dL_law_611 rfl (lv_at hl 1 rfl) ?_
  refine lv_aload_n hx hb dL_law_612 rfl (lv_at hl 3 rfl) ?_
  refine lv_iload_n hx hb dL_law_613 rfl (lv_at hl 0 rfl) ?_
  refine lv_iconst (v := 1) hx hb dL_law_614 (by decide +kernel) ?_
  refine lv_iadd hx hb dL_law_615 ?_
  refine lv_topi (fun y_9 ey_9 => ?_)
  have hy_9 : y_9.toInt = (i : Int) + 1 := by rw [ey_9]; exact ad_i (nI_toInt (by omega)) (by decide +kernel) (by omega) (by omega)
  have ny_9 : y_9.toNatClampNeg = i + 1 := (show y_9.toInt.toNat = _ by omega)
  clear ey_9
  refine va_sld hx hb hX hbl hbA hS (vp_in_iff.mpr (by omega)) dL_law_616 ?_
  refine lv_topi (fun z_10 ez_10 => ?_)
  obtain rfl : z_10 = xs (i + 1) := ez_10.trans (by rw [ny_9])
  clear ny_9 hy_9
  refine lv_aload_n hx hb dL_law_617 rfl (lv_at hl 3 rfl) ?_
  refine lv_iload_n hx hb dL_law_618 rfl (lv_at hl 0 rfl) ?_
  refine lv_iconst (v := 2) hx hb dL_law_619 (by decide +kernel) ?_
  refine lv_iadd hx hb dL_law_620 ?_
  refine lv_topi (fun y_11 ey_11 => ?_)
  have hy_11 : y_11.toInt = (i : Int) + 2 := by rw [ey_11]; exact ad_i (nI_toInt (by omega)) (by decide +kernel) (by omega) (by omega)
  have ny_11 : y_11.toNatClampNeg = i + 2 := (show y_11.toInt.toNat = _ by omega)
  clear ey_11
  refine va_sld hx hb hX hbl hbA hS (vp_in_iff.mpr (by omega)) dL_law_621 ?_
  refine lv_topi (fun z_12 ez_12 => ?_)
  obtain rfl : z_12 = xs (i + 2) := ez_12.trans (by rw [ny_11])
  clear ny_11 hy_11
  refine lv_i2l (v := (xs (i + 2) : Int32).toInt64) hx hb dL_law_622 rfl ?_
  refine lv_bipush (v := 32) hx hb dL_law_623 (by decide +kernel) ?_
  refine lv_lshl (v := ((xs (i + 2) : Int32).toInt64) <<< ((32 : Int32).toInt64 &&& 63)) hx hb dL_law_625 rfl ?_
  refine lv_aload_n hx hb dL_law_626 rfl (lv_at hl 3 rfl) ?_
  refine lv_iload_n hx hb dL_law_627 rfl (lv_at hl 0 rfl) ?_
  refine lv_iconst (v := 3) hx hb dL_law_628 (by decide +kernel) ?_
  refine lv_iadd hx hb dL_law_629 ?_
  refine lv_topi (fun y_13 ey_13 => ?_)
  have hy_13 : y_13.toInt = (i : Int) + 3 := by rw [ey_13]; exact ad_i (nI_toInt (by omega)) (by decide +kernel) (by omega) (by omega)
  have ny_13 : y_13.toNatClampNeg = i + 3 := (show y_13.toInt.toNat = _ by omega)
  clear ey_13
  refine va_sld hx hb hX hbl hbA hS (vp_in_iff.mpr (by omega)) dL_law_630 ?_
  refine lv_topi (fun z_14 ez_14 => ?_)
  obtain rfl : z_14 = xs (i + 3) := ez_14.trans (by rw [ny_13])
  clear ny_13 hy_13
  refine lv_i2l (v := (xs (i + 3) : Int32).toInt64) hx hb dL_law_631 rfl ?_
  refine lv_ldc2 (v := 4294967295) hx hb hown (hts (.constantLong RL 61 (4294967295)) (by decide +kernel)) dL_law_632 ?_
  refine lv_land hx hb dL_law_635 ?_
  refine lv_lor hx hb dL_law_636 ?_
  obtain ⟨hI_o, to, gV, gA, hlw⟩ := id hJ
  obtain ⟨hPo, hDo, hPm, hDm, hdis⟩ := id hH
  have hFc := o_free hDm hS hA
  refine va_calli (va_runV (As := [.int (xs (i + 1)), .long ((((xs (i + 2) : Int32).toInt64) <<< ((32 : Int32).toInt64 &&& 63)) ||| (((xs (i + 3) : Int32).toInt64) &&& 4294967295))]) (rest := []) ⟨hx, hb, hml, hown, hts⟩ (c_X11_feed_f l dC dI H.size g0 pq cp v fa gV gA (xs (i + 1)) ((((xs (i + 2) : Int32).toInt64) <<< ((32 : Int32).toInt64 &&& 63)) ||| (((xs (i + 3) : Int32).toInt64) &&& 4294967295))) (cwV 2 hts gL_law_X11_feed rfl rfl rfl (by decide +kernel) ⟨(Nat.le_of_ble_eq_true rfl), (Nat.le_of_ble_eq_true rfl)⟩) (pr_V (r := (RX11, TX11, 63)) hPm hKm hDm 0 11 rfl rfl) rfl rfl hl.1 rfl (lv_room (Nat.le_of_ble_eq_true rfl)) dL_law_637 ⟨(show cells + 0 ≤ 600000 by omega), (show slots + 0 ≤ 7302250 by omega)⟩) hS (fun q _ h => hFc q h) hFc (fun r_16 u t H locs ht hvm w_15 hB hz1 hk1 hS => ?_)
  obtain ⟨v1, fa1⟩ := u
  obtain ⟨hP1, hK1, hD1⟩ := hB
  rw [ht] at hP1
  dsimp only at hP1 hD1
  have hH := lwH_m hH hFc hk1 hP1 hD1
  clear hP1 hK1 hD1
  obtain ⟨hV1, hA1, hm1, hq1⟩ := w_15
  dsimp only at hV1 hA1 hm1 hq1
  obtain ⟨er, hJ⟩ := lw_feed hJ hI1 hX1 htp hrw hp1 hV1 hA1 hm1 hq1 (by decide +kernel) (by decide +kernel)
  clear hk1 hz1 hvm ht hFc
  refine lv_pop hx hb dL_law_640 rfl ?_
  refine lv_goto (tgt := 1499) hx hb dL_law_641 (by decide +kernel) ?_
  refine W.widen (k := cells + 4) (n := slots + 134) (by omega) (by omega) ?_
  exact K _ _ _ _ _ _ hJ hH hS hl
set_option maxHeartbeats 4000000 in
set_option maxRecDepth 100000 in
theorem lc_12 {p : Program} {l : Launch} {e : Env} {s : State} {m : MethodId} {below : List Frame} {meth : Method} {c : Code} {b L : Nat} {xs : Nat → Int32} {A : Nat → Prop} {dC : Nat → ClassId} {dI : Nat → Nat → Nat} {tL tS tG h0 g0 : Nat} {pq : Nat → Nat} {cq cp : Nat → ClassId} (C0 : lw_At p s m meth c b L xs) (hL : L ≤ 3072) (hA : ∀ q : Nat, s.heap.size ≤ q → A q) (hAq : ∀ q, A q → s.heap.size ≤ q) (hZ : stO A tL tS tG s s.heap) (hKo : va_K (dC, dI) vwCl (oT cq) s) (hKm : va_K (dC, dI) vwCl (mT cp) s) {S : oS} {v : Nat → Int32} {fa : Nat → Nat → Int32} {H : Heap} {locs : List Loc} {i cells slots : Nat} (hi : i + 6 ≤ L) (hcl : cells ≤ 500000) (hsl : slots ≤ 7000000) (hJ : lwI S h0 v fa) (hH : lwH (dC, dI) A cq cp g0 pq S v fa H) (hS : va_S A s.heap H locs) {ls : Array Slot} (hl : lv_has ls 4 [(3, .int (nI i)), (2, .ref g0), (1, .ref h0), (0, .ref b)]) (K : (∀ (S1 : oS) (v1 : Nat → Int32) (fa1 : Nat → Nat → Int32) (H1 : Heap) (locs1 : List Loc) (ls1 : Array Slot), lwI S1 h0 v1 fa1 → lwH (dC, dI) A cq cp g0 pq S1 v1 fa1 H1 → va_S A s.heap H1 locs1 → lv_has ls1 4 [(3, .int (nI i)), (2, .ref g0), (1, .ref h0), (0, .ref b)] → W p l e room_1 s m #[Value.ref b] below meth c H1 locs1 (cells + 4) (slots + 134) (lw_Z below #[Value.ref b] s) (F0 m 1499 ls1 []))) : W p l e room_1 s m #[Value.ref b] below meth c H locs cells slots (lw_Z below #[Value.ref b] s) (F0 m 644 ls []) := by
  obtain ⟨hx, hb, hr, hml, hown, hts, hX, hbl, hlocks, hgv⟩ := id C0
  have hts := fun w h => hts w (wsL_law_in w h)
  have hown : s.vm.findClass RL = some m.cls := hown
  have hbA : ¬ A b := fun h => Nat.not_le.mpr hbl (hAq b h)
  refine lv_aload_n hx hb dL_law_644 rfl (lv_at hl 2 rfl) ?_
  refine lv_aload_n hx hb dL_law_645 rfl (lv_at hl 3 rfl) ?_
  refine lv_iload_n hx hb dL_law_646 rfl (lv_at hl 0 rfl) ?_
  refine lv_iconst (v := 1) hx hb dL_law_647 (by decide +kernel) ?_
  refine lv_iadd hx hb dL_law_648 ?_
  refine lv_topi (fun y_1 ey_1 => ?_)
  have hy_1 : y_1.toInt = (i : Int) + 1 := by rw [ey_1]; exact ad_i (nI_toInt (by omega)) (by decide +kernel) (by omega) (by omega)
  have ny_1 : y_1.toNatClampNeg = i + 1 := (show y_1.toInt.toNat = _ by omega)
  clear ey_1
  refine va_sld hx hb hX hbl hbA hS (vp_in_iff.mpr (by omega)) dL_law_649 ?_
  refine lv_topi (fun z_2 ez_2 => ?_)
  obtain rfl : z_2 = xs (i + 1) := ez_2.trans (by rw [ny_1])
  clear ny_1 hy_1
  refine lv_aload_n hx hb dL_law_650 rfl (lv_at hl 3 rfl) ?_
  refine lv_iload_n hx hb dL_law_651 rfl (lv_at hl 0 rfl) ?_
  refine lv_iconst (v := 2) hx hb dL_law_652 (by decide +kernel) ?_
  refine lv_iadd hx hb dL_law_653 ?_
  refine lv_topi (fun y_3 ey_3 => ?_)
  have hy_3 : y_3.toInt = (i : Int) + 2 := by rw [ey_3]; exact ad_i (nI_toInt (by omega)) (by decide +kernel) (by omega) (by omega)
  have ny_3 : y_3.toNatClampNeg = i + 2 := (show y_3.toInt.toNat = _ by omega)
  clear ey_3
  refine va_sld hx hb hX hbl hbA hS (vp_in_iff.mpr (by omega)) dL_law_654 ?_
  refine lv_topi (fun z_4 ez_4 => ?_)
  obtain rfl : z_4 = xs (i + 2) := ez_4.trans (by rw [ny_3])
  clear ny_3 hy_3
  obtain ⟨hI_o, to, gV, gA, hlw⟩ := id hJ
  obtain ⟨hPo, hDo, hPm, hDm, hdis⟩ := id hH
  have hFc := o_free hDo hS hA
  obtain ⟨q0, hq0⟩ := og (cq := cq) to.1 (oE_10 to.2)
  obtain ⟨tp, htp⟩ := oInv.nn (i := 9) hI_o to rfl
  have ttp : oty S tp 8 := oInv.rd hI_o to.2 htp rfl rfl
  obtain ⟨rw_, hrw⟩ := oInv.nn (i := 0) hI_o ttp rfl
  obtain ⟨cd, hcd⟩ := oInv.nn (i := 2) hI_o ttp rfl
  obtain ⟨lw, hlaw⟩ := oInv.nn (i := 8) hI_o to rfl
  refine va_calli (va_runV (As := [.int (xs (i + 1)), .int (xs (i + 2))]) (rest := []) ⟨hx, hb, hml, hown, hts⟩ (c_X10_act_g l dC dI H.size tL tS tG cq S hI_o h0 to (xs (i + 1)) (xs (i + 2)) tp rw_ cd lw htp hrw hcd hlaw) (cwV 2 hts gL_law_X10_act rfl rfl rfl (by decide +kernel) ⟨(Nat.le_of_ble_eq_true rfl), (Nat.le_of_ble_eq_true rfl)⟩) (pr_VO (r := (RX10, TX10, 16)) hPo hKo hDo q0 10 rfl hq0 (hZ.go hS hFc)) rfl rfl hl.1 rfl (lv_room (Nat.le_of_ble_eq_true rfl)) dL_law_655 ⟨(show cells + 4 ≤ 600000 by omega), (show slots + 134 ≤ 7302250 by omega)⟩) hS (fun q _ h => hFc q h) hFc (fun r_6 u t H locs ht hvm w_5 hB hz1 hk1 hS => ?_)
  refine W.widen (k := cells + 4) (n := slots + 134) (by omega) (by omega) ?_
  obtain ⟨S9, rfl⟩ : ∃ z, z = u := ⟨_, rfl⟩
  obtain ⟨hP1, hK1, hD1⟩ := hB
  rw [ht] at hP1
  have hH := lwH_o hH hFc hk1 hP1 hD1
  clear hP1 hK1 hD1
  obtain ⟨hI1, hX1, hp1⟩ := w_5
  clear hk1 hz1 hvm ht hFc
  refine lv_pop hx hb dL_law_658 rfl ?_
  refine lv_aload_n hx hb dL_law_659 rfl (lv_at hl 1 rfl) ?_
  refine lv_aload_n hx hb dL_law_660 rfl (lv_at hl 3 rfl) ?_
  refine lv_iload_n hx hb dL_law_661 rfl (lv_at hl 0 rfl) ?_
  refine lv_iconst (v := 1) hx hb dL_law_662 (by decide +kernel) ?_
  refine lv_iadd hx hb dL_law_663 ?_
  refine lv_topi (fun y_7 ey_7 => ?_)
  have hy_7 : y_7.toInt = (i : Int) + 1 := by rw [ey_7]; exact ad_i (nI_toInt (by omega)) (by decide +kernel) (by omega) (by omega)
  have ny_7 : y_7.toNatClampNeg = i + 1 := (show y_7.toInt.toNat = _ by omega)
  clear ey_7
  refine va_sld hx hb hX hbl hbA hS (vp_in_iff.mpr (by omega)) dL_law_664 ?_
  refine lv_topi (fun z_8 ez_8 => ?_)
  obtain rfl : z_8 = xs (i + 1) := ez_8.trans (by rw [ny_7])
  clear ny_7 hy_7
  refine lv_aload_n hx hb dL_law_665 rfl (lv_at hl 3 rfl) ?_
  refine lv_iload_n hx hb dL_law_666 rfl (lv_at hl 0 rfl) ?_
  refine lv_iconst (v := 2) hx hb dL_law_667 (by decide +kernel) ?_
  refine lv_iadd hx hb dL_law_668 ?_
  refine lv_topi (fun y_9 ey_9 => ?_)
  have hy_9 : y_9.toInt = (i : Int) + 2 := by rw [ey_9]; exact ad_i (nI_toInt (by omega)) (by decide +kernel) (by omega) (by omega)
  have ny_9 : y_9.toNatClampNeg = i + 2 := (show y_9.toInt.toNat = _ by omega)
  clear ey_9
  refine va_sld hx hb hX hbl hbA hS (vp_in_iff.mpr (by omega)) dL_law_669 ?_
  refine lv_topi (fun z_10 ez_10 => ?_)
  obtain rfl : z_10 = xs (i + 2) := ez_10.trans (by rw [ny_9])
  clear ny_9 hy_9
  obtain ⟨hI_o, to, gV, gA, hlw⟩ := id hJ
  obtain ⟨hPo, hDo, hPm, hDm, hdis⟩ := id hH
  have hFc := o_free hDm hS hA
  refine va_calli (va_runV (As := [.int (xs (i + 1)), .int (xs (i + 2))]) (rest := []) ⟨hx, hb, hml, hown, hts⟩ (c_X11_act_g l dC dI H.size g0 pq cp v fa gV gA (xs (i + 1)) (xs (i + 2))) (cwV 2 hts gL_law_X11_act rfl rfl rfl (by decide +kernel) ⟨(Nat.le_of_ble_eq_true rfl), (Nat.le_of_ble_eq_true rfl)⟩) (pr_V (r := (RX11, TX11, 63)) hPm hKm hDm 0 11 rfl rfl) rfl rfl hl.1 rfl (lv_room (Nat.le_of_ble_eq_true rfl)) dL_law_670 ⟨(show cells + 4 + 0 ≤ 600000 by omega), (show slots + 134 + 0 ≤ 7302250 by omega)⟩) hS (fun q _ h => hFc q h) hFc (fun r_12 u t H locs ht hvm w_11 hB hz1 hk1 hS => ?_)
  obtain ⟨v1, fa1⟩ := u
  obtain ⟨hP1, hK1, hD1⟩ := hB
  rw [ht] at hP1
  dsimp only at hP1 hD1
  have hH := lwH_m hH hFc hk1 hP1 hD1
  clear hP1 hK1 hD1
  obtain ⟨hV1, hA1, hm1, hq1⟩ := w_11
  dsimp only at hV1 hA1 hm1 hq1
  obtain ⟨er, hJ⟩ := lw_act hJ hI1 hX1 htp hrw hlaw hp1 hV1 hA1 hm1 hq1 (by decide +kernel) (by decide +kernel)
  clear hk1 hz1 hvm ht hFc
  refine lv_pop hx hb dL_law_673 rfl ?_
  refine lv_goto (tgt := 1499) hx hb dL_law_674 (by decide +kernel) ?_
  refine W.widen (k := cells + 4) (n := slots + 134) (by omega) (by omega) ?_
  exact K _ _ _ _ _ _ hJ hH hS hl
