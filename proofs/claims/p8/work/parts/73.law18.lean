theorem gw_X10_advance : wsX10_advance.all goodWord = true := by decide +kernel
theorem gw_X10_sold : wsX10_sold.all goodWord = true := by decide +kernel
theorem gw_X11_advance : wsX11_advance.all goodWord = true := by decide +kernel
theorem gw_X11_sold : wsX11_sold.all goodWord = true := by decide +kernel
theorem il_L_law_32 : ∀ w ∈ wsL_law_r32, w ∈ wsL_law := fun w h => (List.mem_append_left _ (List.mem_append_left _ (List.mem_append_left _ (List.mem_append_left _ (List.mem_append_left _ (List.mem_append_left _ (List.mem_append_left _ (List.mem_append_left _ (List.mem_append_left _ (List.mem_append_left _ (List.mem_append_left _ (List.mem_append_left _ (List.mem_append_left _ (List.mem_append_right _ (List.mem_append_right _ (List.mem_append_right _ (List.mem_append_right _ (List.mem_append_right _ (List.mem_append_right _ (List.mem_append_right _ (List.mem_append_right _ (List.mem_append_right _ (List.mem_append_right _ (List.mem_append_right _ (List.mem_append_right _ (List.mem_append_right _ (List.mem_append_right _ (List.mem_append_right _ (List.mem_append_right _ (List.mem_append_right _ (List.mem_append_right _ (List.mem_append_right _ (List.mem_append_right _ (List.mem_append_right _ (List.mem_append_right _ (List.mem_append_right _ (List.mem_append_right _ (List.mem_append_right _ (List.mem_append_right _ (List.mem_append_right _ (List.mem_append_right _ (List.mem_append_right _ (List.mem_append_right _ (List.mem_append_right _ (List.mem_append_left _ h)))))))))))))))))))))))))))))))))))))))))))))
set_option maxRecDepth 100000 in
theorem ggL_law_X10_advance : GoodIn wsL_law wsX10_advance := goodIn_sub (mmC (mmI il_L_law_31 22 rfl) (mmA (mmA (mmA (mmA (mmA (mmA (mmA (mmC (mmI il_L_law_31 23 rfl) (mmC (mmI il_L_law_7 4 rfl) (mmC (mmI il_L_law_1 22 rfl) (mmC (mmI il_L_law_8 19 rfl) (mmC (mmI il_L_law_16 1 rfl) (mmC (mmI il_L_law_16 2 rfl) (mmC (mmI il_L_law_16 3 rfl) (mmC (mmI il_L_law_1 2 rfl) (mmC (mmI il_L_law_16 4 rfl) (mmC (mmI il_L_law_12 3 rfl) (mmC (mmI il_L_law_1 18 rfl) (mmC (mmI il_L_law_7 5 rfl) (mmC (mmI il_L_law_7 6 rfl) (mmC (mmI il_L_law_7 7 rfl) (mmC (mmI il_L_law_7 8 rfl) (mmC (mmI il_L_law_2 15 rfl) (mmC (mmI il_L_law_27 6 rfl) (mmC (mmI il_L_law_27 7 rfl) (mmC (mmI il_L_law_27 8 rfl) (mmC (mmI il_L_law_12 13 rfl) (mmC (mmI il_L_law_27 9 rfl) (mmC (mmI il_L_law_25 16 rfl) (mmC (mmI il_L_law_12 18 rfl) (mmC (mmI il_L_law_12 17 rfl) mmN)))))))))))))))))))))))) (mmA (mmC (mmI il_L_law_12 15 rfl) (mmC (mmI il_L_law_27 10 rfl) (mmC (mmI il_L_law_27 11 rfl) (mmC (mmI il_L_law_27 12 rfl) (mmC (mmI il_L_law_27 13 rfl) (mmC (mmI il_L_law_27 14 rfl) (mmC (mmI il_L_law_10 20 rfl) (mmC (mmI il_L_law_27 15 rfl) (mmC (mmI il_L_law_11 11 rfl) (mmC (mmI il_L_law_11 10 rfl) (mmC (mmI il_L_law_27 16 rfl) (mmC (mmI il_L_law_27 17 rfl) (mmC (mmI il_L_law_27 18 rfl) (mmC (mmI il_L_law_27 19 rfl) (mmC (mmI il_L_law_27 20 rfl) (mmC (mmI il_L_law_27 21 rfl) (mmC (mmI il_L_law_27 22 rfl) (mmC (mmI il_L_law_27 23 rfl) (mmC (mmI il_L_law_28 0 rfl) (mmC (mmI il_L_law_28 1 rfl) (mmC (mmI il_L_law_28 2 rfl) (mmC (mmI il_L_law_28 3 rfl) (mmC (mmI il_L_law_28 4 rfl) (mmC (mmI il_L_law_28 5 rfl) mmN)))))))))))))))))))))))) (mmC (mmI il_L_law_28 6 rfl) (mmC (mmI il_L_law_28 7 rfl) (mmC (mmI il_L_law_11 9 rfl) (mmC (mmI il_L_law_11 8 rfl) (mmC (mmI il_L_law_28 8 rfl) (mmC (mmI il_L_law_28 9 rfl) (mmC (mmI il_L_law_28 10 rfl) (mmC (mmI il_L_law_28 11 rfl) (mmC (mmI il_L_law_28 12 rfl) (mmC (mmI il_L_law_28 13 rfl) (mmC (mmI il_L_law_28 14 rfl) (mmC (mmI il_L_law_28 15 rfl) (mmC (mmI il_L_law_28 16 rfl) (mmC (mmI il_L_law_25 1 rfl) (mmC (mmI il_L_law_25 2 rfl) (mmC (mmI il_L_law_1 21 rfl) (mmC (mmI il_L_law_25 3 rfl) (mmC (mmI il_L_law_2 22 rfl) (mmC (mmI il_L_law_21 17 rfl) (mmC (mmI il_L_law_2 21 rfl) (mmC (mmI il_L_law_25 4 rfl) (mmC (mmI il_L_law_25 5 rfl) mmN)))))))))))))))))))))))) il_L_law_56) il_L_law_47) il_L_law_57) il_L_law_53) il_L_law_55) il_L_law_49)) gw_X10_advance
theorem gL_law_X10_advance : GoodIn wsL_law (wsV RL 89 RX10 yX10_advance wsX10_advance) := goodIn_app (goodIn_sub (mmC (mmI il_L_law_31 19 rfl) (mmC (mmI il_L_law_31 20 rfl) (mmC (mmI il_L_law_31 21 rfl) (mmC (mmI il_L_law_1 2 rfl) mmN)))) (by decide +kernel)) ggL_law_X10_advance
set_option maxRecDepth 100000 in
theorem ggL_law_X11_advance : GoodIn wsL_law wsX11_advance := goodIn_sub (mmC (mmI il_L_law_32 3 rfl) (mmA (mmA (mmC (mmI il_L_law_6 3 rfl) (mmC (mmI il_L_law_7 13 rfl) (mmC (mmI il_L_law_10 12 rfl) (mmC (mmI il_L_law_16 19 rfl) (mmC (mmI il_L_law_16 20 rfl) (mmC (mmI il_L_law_16 21 rfl) (mmC (mmI il_L_law_1 5 rfl) (mmC (mmI il_L_law_16 22 rfl) (mmC (mmI il_L_law_13 0 rfl) (mmC (mmI il_L_law_8 12 rfl) (mmC (mmI il_L_law_8 13 rfl) (mmC (mmI il_L_law_8 14 rfl) (mmC (mmI il_L_law_7 14 rfl) (mmC (mmI il_L_law_7 15 rfl) (mmC (mmI il_L_law_7 16 rfl) (mmC (mmI il_L_law_7 17 rfl) (mmC (mmI il_L_law_5 0 rfl) (mmC (mmI il_L_law_29 1 rfl) (mmC (mmI il_L_law_29 2 rfl) (mmC (mmI il_L_law_29 3 rfl) (mmC (mmI il_L_law_29 4 rfl) (mmC (mmI il_L_law_6 1 rfl) (mmC (mmI il_L_law_6 2 rfl) (mmC (mmI il_L_law_5 10 rfl) mmN)))))))))))))))))))))))) (mmA (mmC (mmI il_L_law_5 21 rfl) (mmC (mmI il_L_law_29 5 rfl) (mmC (mmI il_L_law_29 6 rfl) (mmC (mmI il_L_law_29 7 rfl) (mmC (mmI il_L_law_29 8 rfl) (mmC (mmI il_L_law_13 9 rfl) (mmC (mmI il_L_law_5 11 rfl) (mmC (mmI il_L_law_5 13 rfl) (mmC (mmI il_L_law_5 12 rfl) (mmC (mmI il_L_law_29 9 rfl) (mmC (mmI il_L_law_29 10 rfl) (mmC (mmI il_L_law_29 11 rfl) (mmC (mmI il_L_law_29 12 rfl) (mmC (mmI il_L_law_29 13 rfl) (mmC (mmI il_L_law_29 14 rfl) (mmC (mmI il_L_law_29 15 rfl) (mmC (mmI il_L_law_29 16 rfl) (mmC (mmI il_L_law_29 17 rfl) (mmC (mmI il_L_law_29 18 rfl) (mmC (mmI il_L_law_29 19 rfl) (mmC (mmI il_L_law_29 20 rfl) (mmC (mmI il_L_law_29 21 rfl) (mmC (mmI il_L_law_29 22 rfl) (mmC (mmI il_L_law_29 23 rfl) mmN)))))))))))))))))))))))) (mmA (mmC (mmI il_L_law_30 0 rfl) (mmC (mmI il_L_law_26 2 rfl) (mmC (mmI il_L_law_26 3 rfl) (mmC (mmI il_L_law_26 4 rfl) (mmC (mmI il_L_law_26 5 rfl) (mmC (mmI il_L_law_6 16 rfl) (mmC (mmI il_L_law_30 1 rfl) (mmC (mmI il_L_law_30 2 rfl) (mmC (mmI il_L_law_30 3 rfl) (mmC (mmI il_L_law_30 4 rfl) (mmC (mmI il_L_law_26 6 rfl) (mmC (mmI il_L_law_26 7 rfl) (mmC (mmI il_L_law_26 8 rfl) (mmC (mmI il_L_law_26 9 rfl) (mmC (mmI il_L_law_5 16 rfl) (mmC (mmI il_L_law_26 10 rfl) (mmC (mmI il_L_law_26 11 rfl) (mmC (mmI il_L_law_26 12 rfl) (mmC (mmI il_L_law_26 13 rfl) (mmC (mmI il_L_law_21 22 rfl) (mmC (mmI il_L_law_5 17 rfl) (mmC (mmI il_L_law_5 18 rfl) (mmC (mmI il_L_law_22 1 rfl) (mmC (mmI il_L_law_22 2 rfl) mmN)))))))))))))))))))))))) (mmA (mmC (mmI il_L_law_22 3 rfl) (mmC (mmI il_L_law_22 4 rfl) (mmC (mmI il_L_law_22 5 rfl) (mmC (mmI il_L_law_22 6 rfl) (mmC (mmI il_L_law_22 0 rfl) (mmC (mmI il_L_law_22 7 rfl) (mmC (mmI il_L_law_21 23 rfl) (mmC (mmI il_L_law_22 8 rfl) (mmC (mmI il_L_law_22 9 rfl) (mmC (mmI il_L_law_22 10 rfl) (mmC (mmI il_L_law_22 11 rfl) (mmC (mmI il_L_law_22 12 rfl) (mmC (mmI il_L_law_22 13 rfl) (mmC (mmI il_L_law_22 14 rfl) (mmC (mmI il_L_law_22 15 rfl) (mmC (mmI il_L_law_22 16 rfl) (mmC (mmI il_L_law_22 17 rfl) (mmC (mmI il_L_law_22 18 rfl) (mmC (mmI il_L_law_6 15 rfl) (mmC (mmI il_L_law_5 19 rfl) (mmC (mmI il_L_law_22 19 rfl) (mmC (mmI il_L_law_22 20 rfl) (mmC (mmI il_L_law_22 21 rfl) (mmC (mmI il_L_law_22 22 rfl) mmN)))))))))))))))))))))))) (mmC (mmI il_L_law_22 23 rfl) (mmC (mmI il_L_law_23 0 rfl) (mmC (mmI il_L_law_23 1 rfl) (mmC (mmI il_L_law_23 2 rfl) (mmC (mmI il_L_law_23 3 rfl) (mmC (mmI il_L_law_23 4 rfl) (mmC (mmI il_L_law_23 5 rfl) (mmC (mmI il_L_law_23 6 rfl) (mmC (mmI il_L_law_23 7 rfl) (mmC (mmI il_L_law_23 8 rfl) (mmC (mmI il_L_law_23 9 rfl) (mmC (mmI il_L_law_23 10 rfl) (mmC (mmI il_L_law_23 11 rfl) (mmC (mmI il_L_law_23 12 rfl) (mmC (mmI il_L_law_23 13 rfl) (mmC (mmI il_L_law_23 14 rfl) (mmC (mmI il_L_law_23 15 rfl) mmN))))))))))))))))))))) il_L_law_48)) gw_X11_advance
theorem gL_law_X11_advance : GoodIn wsL_law (wsV RL 92 RX11 yX11_advance wsX11_advance) := goodIn_app (goodIn_sub (mmC (mmI il_L_law_32 0 rfl) (mmC (mmI il_L_law_32 1 rfl) (mmC (mmI il_L_law_32 2 rfl) (mmC (mmI il_L_law_1 5 rfl) mmN)))) (by decide +kernel)) ggL_law_X11_advance
set_option maxRecDepth 100000 in
theorem ggL_law_X10_sold : GoodIn wsL_law wsX10_sold := goodIn_sub (mmC (mmI il_L_law_32 7 rfl) (mmA (mmA (mmC (mmI il_L_law_31 23 rfl) (mmC (mmI il_L_law_32 8 rfl) (mmC (mmI il_L_law_16 1 rfl) (mmC (mmI il_L_law_16 2 rfl) (mmC (mmI il_L_law_16 3 rfl) (mmC (mmI il_L_law_1 2 rfl) (mmC (mmI il_L_law_16 4 rfl) (mmC (mmI il_L_law_12 3 rfl) (mmC (mmI il_L_law_1 18 rfl) (mmC (mmI il_L_law_7 5 rfl) (mmC (mmI il_L_law_7 6 rfl) (mmC (mmI il_L_law_7 7 rfl) (mmC (mmI il_L_law_7 8 rfl) (mmC (mmI il_L_law_2 15 rfl) mmN)))))))))))))) il_L_law_56) il_L_law_47)) gw_X10_sold
theorem gL_law_X10_sold : GoodIn wsL_law (wsV RL 93 RX10 yX10_sold wsX10_sold) := goodIn_app (goodIn_sub (mmC (mmI il_L_law_32 4 rfl) (mmC (mmI il_L_law_32 5 rfl) (mmC (mmI il_L_law_32 6 rfl) (mmC (mmI il_L_law_1 2 rfl) mmN)))) (by decide +kernel)) ggL_law_X10_sold
set_option maxRecDepth 100000 in
theorem ggL_law_X11_sold : GoodIn wsL_law wsX11_sold := goodIn_sub (mmC (mmI il_L_law_32 12 rfl) (mmA (mmC (mmI il_L_law_6 3 rfl) (mmC (mmI il_L_law_6 4 rfl) (mmC (mmI il_L_law_16 19 rfl) (mmC (mmI il_L_law_16 20 rfl) (mmC (mmI il_L_law_16 21 rfl) (mmC (mmI il_L_law_1 5 rfl) (mmC (mmI il_L_law_16 22 rfl) (mmC (mmI il_L_law_13 0 rfl) (mmC (mmI il_L_law_8 12 rfl) (mmC (mmI il_L_law_8 13 rfl) (mmC (mmI il_L_law_8 14 rfl) (mmC (mmI il_L_law_7 14 rfl) (mmC (mmI il_L_law_7 15 rfl) (mmC (mmI il_L_law_7 16 rfl) (mmC (mmI il_L_law_7 17 rfl) (mmC (mmI il_L_law_5 0 rfl) mmN)))))))))))))))) il_L_law_48)) gw_X11_sold
theorem gL_law_X11_sold : GoodIn wsL_law (wsV RL 96 RX11 yX11_sold wsX11_sold) := goodIn_app (goodIn_sub (mmC (mmI il_L_law_32 9 rfl) (mmC (mmI il_L_law_32 10 rfl) (mmC (mmI il_L_law_32 11 rfl) (mmC (mmI il_L_law_1 5 rfl) mmN)))) (by decide +kernel)) ggL_law_X11_sold
theorem dL_law_859 : decode cL_law 859 = .ok (.aload_n 1, 1) := by decide +kernel
theorem dL_law_860 : decode cL_law 860 = .ok (.aload_n 0, 1) := by decide +kernel
theorem dL_law_861 : decode cL_law 861 = .ok (.iload_n 3, 1) := by decide +kernel
theorem dL_law_862 : decode cL_law 862 = .ok (.iconst 1, 1) := by decide +kernel
theorem dL_law_863 : decode cL_law 863 = .ok (.iadd, 1) := by decide +kernel
theorem dL_law_864 : decode cL_law 864 = .ok (.iaload, 1) := by decide +kernel
theorem dL_law_865 : decode cL_law 865 = .ok (.aload_n 0, 1) := by decide +kernel
theorem dL_law_866 : decode cL_law 866 = .ok (.iload_n 3, 1) := by decide +kernel
theorem dL_law_867 : decode cL_law 867 = .ok (.iconst 2, 1) := by decide +kernel
theorem dL_law_868 : decode cL_law 868 = .ok (.iadd, 1) := by decide +kernel
theorem dL_law_869 : decode cL_law 869 = .ok (.iaload, 1) := by decide +kernel
theorem dL_law_870 : decode cL_law 870 = .ok (.invokevirtual 89, 3) := by decide +kernel
theorem dL_law_873 : decode cL_law 873 = .ok (.pop, 1) := by decide +kernel
theorem dL_law_874 : decode cL_law 874 = .ok (.aload_n 2, 1) := by decide +kernel
theorem dL_law_875 : decode cL_law 875 = .ok (.aload_n 0, 1) := by decide +kernel
theorem dL_law_876 : decode cL_law 876 = .ok (.iload_n 3, 1) := by decide +kernel
theorem dL_law_877 : decode cL_law 877 = .ok (.iconst 1, 1) := by decide +kernel
theorem dL_law_878 : decode cL_law 878 = .ok (.iadd, 1) := by decide +kernel
theorem dL_law_879 : decode cL_law 879 = .ok (.iaload, 1) := by decide +kernel
theorem dL_law_880 : decode cL_law 880 = .ok (.aload_n 0, 1) := by decide +kernel
theorem dL_law_881 : decode cL_law 881 = .ok (.iload_n 3, 1) := by decide +kernel
theorem dL_law_882 : decode cL_law 882 = .ok (.iconst 2, 1) := by decide +kernel
theorem dL_law_883 : decode cL_law 883 = .ok (.iadd, 1) := by decide +kernel
theorem dL_law_884 : decode cL_law 884 = .ok (.iaload, 1) := by decide +kernel
theorem dL_law_885 : decode cL_law 885 = .ok (.invokevirtual 92, 3) := by decide +kernel
theorem dL_law_888 : decode cL_law 888 = .ok (.pop, 1) := by decide +kernel
theorem dL_law_889 : decode cL_law 889 = .ok (.goto 610, 3) := by decide +kernel
theorem dL_law_892 : decode cL_law 892 = .ok (.aload_n 1, 1) := by decide +kernel
theorem dL_law_893 : decode cL_law 893 = .ok (.aload_n 0, 1) := by decide +kernel
theorem dL_law_894 : decode cL_law 894 = .ok (.iload_n 3, 1) := by decide +kernel
theorem dL_law_895 : decode cL_law 895 = .ok (.iconst 1, 1) := by decide +kernel
theorem dL_law_896 : decode cL_law 896 = .ok (.iadd, 1) := by decide +kernel
theorem dL_law_897 : decode cL_law 897 = .ok (.iaload, 1) := by decide +kernel
theorem dL_law_898 : decode cL_law 898 = .ok (.aload_n 0, 1) := by decide +kernel
theorem dL_law_899 : decode cL_law 899 = .ok (.iload_n 3, 1) := by decide +kernel
theorem dL_law_900 : decode cL_law 900 = .ok (.iconst 2, 1) := by decide +kernel
theorem dL_law_901 : decode cL_law 901 = .ok (.iadd, 1) := by decide +kernel
theorem dL_law_902 : decode cL_law 902 = .ok (.iaload, 1) := by decide +kernel
theorem dL_law_903 : decode cL_law 903 = .ok (.invokevirtual 93, 3) := by decide +kernel
theorem dL_law_906 : decode cL_law 906 = .ok (.pop, 1) := by decide +kernel
theorem dL_law_907 : decode cL_law 907 = .ok (.aload_n 2, 1) := by decide +kernel
theorem dL_law_908 : decode cL_law 908 = .ok (.aload_n 0, 1) := by decide +kernel
theorem dL_law_909 : decode cL_law 909 = .ok (.iload_n 3, 1) := by decide +kernel
theorem dL_law_910 : decode cL_law 910 = .ok (.iconst 1, 1) := by decide +kernel
theorem dL_law_911 : decode cL_law 911 = .ok (.iadd, 1) := by decide +kernel
theorem dL_law_912 : decode cL_law 912 = .ok (.iaload, 1) := by decide +kernel
theorem dL_law_913 : decode cL_law 913 = .ok (.aload_n 0, 1) := by decide +kernel
theorem dL_law_914 : decode cL_law 914 = .ok (.iload_n 3, 1) := by decide +kernel
theorem dL_law_915 : decode cL_law 915 = .ok (.iconst 2, 1) := by decide +kernel
theorem dL_law_916 : decode cL_law 916 = .ok (.iadd, 1) := by decide +kernel
theorem dL_law_917 : decode cL_law 917 = .ok (.iaload, 1) := by decide +kernel
theorem dL_law_918 : decode cL_law 918 = .ok (.invokevirtual 96, 3) := by decide +kernel
theorem dL_law_921 : decode cL_law 921 = .ok (.pop, 1) := by decide +kernel
theorem dL_law_922 : decode cL_law 922 = .ok (.goto 577, 3) := by decide +kernel


set_option maxHeartbeats 4000000 in
set_option maxRecDepth 100000 in
theorem lc_17 {p : Program} {l : Launch} {e : Env} {s : State} {m : MethodId} {below : List Frame} {meth : Method} {c : Code} {b L : Nat} {xs : Nat → Int32} {A : Nat → Prop} {dC : Nat → ClassId} {dI : Nat → Nat → Nat} {tL tS tG h0 g0 : Nat} {pq : Nat → Nat} {cq cp : Nat → ClassId} (C0 : lw_At p s m meth c b L xs) (hL : L ≤ 3072) (hA : ∀ q : Nat, s.heap.size ≤ q → A q) (hAq : ∀ q, A q → s.heap.size ≤ q) (hZ : stO A tL tS tG s s.heap) (hKo : va_K (dC, dI) vwCl (oT cq) s) (hKm : va_K (dC, dI) vwCl (mT cp) s) {S : oS} {v : Nat → Int32} {fa : Nat → Nat → Int32} {H : Heap} {locs : List Loc} {i cells slots : Nat} (hi : i + 6 ≤ L) (hcl : cells ≤ 500000) (hsl : slots ≤ 7000000) (hJ : lwI S h0 v fa) (hH : lwH (dC, dI) A cq cp g0 pq S v fa H) (hS : va_S A s.heap H locs) {ls : Array Slot} (hl : lv_has ls 4 [(3, .int (nI i)), (2, .ref g0), (1, .ref h0), (0, .ref b)]) (K : (∀ (S1 : oS) (v1 : Nat → Int32) (fa1 : Nat → Nat → Int32) (H1 : Heap) (locs1 : List Loc) (ls1 : Array Slot), lwI S1 h0 v1 fa1 → lwH (dC, dI) A cq cp g0 pq S1 v1 fa1 H1 → va_S A s.heap H1 locs1 → lv_has ls1 4 [(3, .int (nI i)), (2, .ref g0), (1, .ref h0), (0, .ref b)] → W p l e room_1 s m #[Value.ref b] below meth c H1 locs1 (cells + 4) (slots + 134) (lw_Z below #[Value.ref b] s) (F0 m 1499 ls1 []))) : W p l e room_1 s m #[Value.ref b] below meth c H locs cells slots (lw_Z below #[Value.ref b] s) (F0 m 859 ls []) := by
  obtain ⟨hx, hb, hr, hml, hown, hts, hX, hbl, hlocks, hgv⟩ := id C0
  have hts := fun w h => hts w (wsL_law_in w h)
  have hown : s.vm.findClass RL = some m.cls := hown
  have hbA : ¬ A b := fun h => Nat.not_le.mpr hbl (hAq b h)
  refine lv_aload_n hx hb dL_law_859 rfl (lv_at hl 2 rfl) ?_
  refine lv_aload_n hx hb dL_law_860 rfl (lv_at hl 3 rfl) ?_
  refine lv_iload_n hx hb dL_law_861 rfl (lv_at hl 0 rfl) ?_
  refine lv_iconst (v := 1) hx hb dL_law_862 (by decide +kernel) ?_
  refine lv_iadd hx hb dL_law_863 ?_
  refine lv_topi (fun y_1 ey_1 => ?_)
  have hy_1 : y_1.toInt = (i : Int) + 1 := by rw [ey_1]; exact ad_i (nI_toInt (by omega)) (by decide +kernel) (by omega) (by omega)
  have ny_1 : y_1.toNatClampNeg = i + 1 := (show y_1.toInt.toNat = _ by omega)
  clear ey_1
  refine va_sld hx hb hX hbl hbA hS (vp_in_iff.mpr (by omega)) dL_law_864 ?_
  refine lv_topi (fun z_2 ez_2 => ?_)
  obtain rfl : z_2 = xs (i + 1) := ez_2.trans (by rw [ny_1])
  clear ny_1 hy_1
  refine lv_aload_n hx hb dL_law_865 rfl (lv_at hl 3 rfl) ?_
  refine lv_iload_n hx hb dL_law_866 rfl (lv_at hl 0 rfl) ?_
  refine lv_iconst (v := 2) hx hb dL_law_867 (by decide +kernel) ?_
  refine lv_iadd hx hb dL_law_868 ?_
  refine lv_topi (fun y_3 ey_3 => ?_)
  have hy_3 : y_3.toInt = (i : Int) + 2 := by rw [ey_3]; exact ad_i (nI_toInt (by omega)) (by decide +kernel) (by omega) (by omega)
  have ny_3 : y_3.toNatClampNeg = i + 2 := (show y_3.toInt.toNat = _ by omega)
  clear ey_3
  refine va_sld hx hb hX hbl hbA hS (vp_in_iff.mpr (by omega)) dL_law_869 ?_
  refine lv_topi (fun z_4 ez_4 => ?_)
  obtain rfl : z_4 = xs (i + 2) := ez_4.trans (by rw [ny_3])
  clear ny_3 hy_3
  obtain ⟨hI_o, to, gV, gA, hlw⟩ := id hJ
  obtain ⟨hPo, hDo, hPm, hDm, hdis⟩ := id hH
  have hFc := o_free hDo hS hA
  obtain ⟨q0, hq0⟩ := og (cq := cq) to.1 (oE_10 to.2)
  refine va_calli (va_runV (As := [.int (xs (i + 1)), .int (xs (i + 2))]) (rest := []) ⟨hx, hb, hml, hown, hts⟩ (c_X10_advance l dC dI H.size cq S hI_o h0 to (xs (i + 1)) (xs (i + 2))) (cwV 2 hts gL_law_X10_advance rfl rfl rfl (by decide +kernel) ⟨(Nat.le_of_ble_eq_true rfl), (Nat.le_of_ble_eq_true rfl)⟩) (pr_V (r := (RX10, TX10, 16)) hPo hKo hDo q0 10 rfl hq0) rfl rfl hl.1 rfl (lv_room (Nat.le_of_ble_eq_true rfl)) dL_law_870 ⟨(show cells + 0 ≤ 600000 by omega), (show slots + 0 ≤ 7302250 by omega)⟩) hS (fun q _ h => hFc q h) hFc (fun r_6 u t H locs ht hvm w_5 hB hz1 hk1 hS => ?_)
  obtain ⟨S9, rfl⟩ : ∃ z, z = u := ⟨_, rfl⟩
  obtain ⟨hP1, hK1, hD1⟩ := hB
  rw [ht] at hP1
  have hH := lwH_o hH hFc hk1 hP1 hD1
  clear hP1 hK1 hD1
  have hJ := lwI_o hJ w_5.1 w_5.2 (by decide +kernel)
  clear hk1 hz1 hvm ht hFc
  refine lv_pop hx hb dL_law_873 rfl ?_
  refine lv_aload_n hx hb dL_law_874 rfl (lv_at hl 1 rfl) ?_
  refine lv_aload_n hx hb dL_law_875 rfl (lv_at hl 3 rfl) ?_
  refine lv_iload_n hx hb dL_law_876 rfl (lv_at hl 0 rfl) ?_
  refine lv_iconst (v := 1) hx hb dL_law_877 (by decide +kernel) ?_
  refine lv_iadd hx hb dL_law_878 ?_
  refine lv_topi (fun y_7 ey_7 => ?_)
  have hy_7 : y_7.toInt = (i : Int) + 1 := by rw [ey_7]; exact ad_i (nI_toInt (by omega)) (by decide +kernel) (by omega) (by omega)
  have ny_7 : y_7.toNatClampNeg = i + 1 := (show y_7.toInt.toNat = _ by omega)
  clear ey_7
  refine va_sld hx hb hX hbl hbA hS (vp_in_iff.mpr (by omega)) dL_law_879 ?_
  refine lv_topi (fun z_8 ez_8 => ?_)
  obtain rfl : z_8 = xs (i + 1) := ez_8.trans (by rw [ny_7])
  clear ny_7 hy_7
  refine lv_aload_n hx hb dL_law_880 rfl (lv_at hl 3 rfl) ?_
  refine lv_iload_n hx hb dL_law_881 rfl (lv_at hl 0 rfl) ?_
  refine lv_iconst (v := 2) hx hb dL_law_882 (by decide +kernel) ?_
  refine lv_iadd hx hb dL_law_883 ?_
  refine lv_topi (fun y_9 ey_9 => ?_)
  have hy_9 : y_9.toInt = (i : Int) + 2 := by rw [ey_9]; exact ad_i (nI_toInt (by omega)) (by decide +kernel) (by omega) (by omega)
  have ny_9 : y_9.toNatClampNeg = i + 2 := (show y_9.toInt.toNat = _ by omega)
  clear ey_9
  refine va_sld hx hb hX hbl hbA hS (vp_in_iff.mpr (by omega)) dL_law_884 ?_
  refine lv_topi (fun z_10 ez_10 => ?_)
  obtain rfl : z_10 = xs (i + 2) := ez_10.trans (by rw [ny_9])
  clear ny_9 hy_9
  obtain ⟨hI_o, to, gV, gA, hlw⟩ := id hJ
  obtain ⟨hPo, hDo, hPm, hDm, hdis⟩ := id hH
  have hFc := o_free hDm hS hA
  refine va_calli (va_runV (As := [.int (xs (i + 1)), .int (xs (i + 2))]) (rest := []) ⟨hx, hb, hml, hown, hts⟩ (c_X11_advance l dC dI H.size g0 pq cp v fa gV gA (xs (i + 1)) (xs (i + 2))) (cwV 2 hts gL_law_X11_advance rfl rfl rfl (by decide +kernel) ⟨(Nat.le_of_ble_eq_true rfl), (Nat.le_of_ble_eq_true rfl)⟩) (pr_V (r := (RX11, TX11, 63)) hPm hKm hDm 0 11 rfl rfl) rfl rfl hl.1 rfl (lv_room (Nat.le_of_ble_eq_true rfl)) dL_law_885 ⟨(show cells + 0 ≤ 600000 by omega), (show slots + 0 ≤ 7302250 by omega)⟩) hS (fun q _ h => hFc q h) hFc (fun r_12 u t H locs ht hvm w_11 hB hz1 hk1 hS => ?_)
  obtain ⟨v1, fa1⟩ := u
  obtain ⟨hP1, hK1, hD1⟩ := hB
  rw [ht] at hP1
  dsimp only at hP1 hD1
  have hH := lwH_m hH hFc hk1 hP1 hD1
  clear hP1 hK1 hD1
  obtain ⟨hV1, hA1, hn1⟩ := w_11
  dsimp only at hV1 hA1 hn1
  have hJ := lwI_m hJ hV1 hA1 hn1 (by decide +kernel)
  clear hk1 hz1 hvm ht hFc
  refine lv_pop hx hb dL_law_888 rfl ?_
  refine lv_goto (tgt := 1499) hx hb dL_law_889 (by decide +kernel) ?_
  refine W.widen (k := cells + 4) (n := slots + 134) (by omega) (by omega) ?_
  exact K _ _ _ _ _ _ hJ hH hS hl
set_option maxHeartbeats 4000000 in
set_option maxRecDepth 100000 in
theorem lc_18 {p : Program} {l : Launch} {e : Env} {s : State} {m : MethodId} {below : List Frame} {meth : Method} {c : Code} {b L : Nat} {xs : Nat → Int32} {A : Nat → Prop} {dC : Nat → ClassId} {dI : Nat → Nat → Nat} {tL tS tG h0 g0 : Nat} {pq : Nat → Nat} {cq cp : Nat → ClassId} (C0 : lw_At p s m meth c b L xs) (hL : L ≤ 3072) (hA : ∀ q : Nat, s.heap.size ≤ q → A q) (hAq : ∀ q, A q → s.heap.size ≤ q) (hZ : stO A tL tS tG s s.heap) (hKo : va_K (dC, dI) vwCl (oT cq) s) (hKm : va_K (dC, dI) vwCl (mT cp) s) {S : oS} {v : Nat → Int32} {fa : Nat → Nat → Int32} {H : Heap} {locs : List Loc} {i cells slots : Nat} (hi : i + 6 ≤ L) (hcl : cells ≤ 500000) (hsl : slots ≤ 7000000) (hJ : lwI S h0 v fa) (hH : lwH (dC, dI) A cq cp g0 pq S v fa H) (hS : va_S A s.heap H locs) {ls : Array Slot} (hl : lv_has ls 4 [(3, .int (nI i)), (2, .ref g0), (1, .ref h0), (0, .ref b)]) (K : (∀ (S1 : oS) (v1 : Nat → Int32) (fa1 : Nat → Nat → Int32) (H1 : Heap) (locs1 : List Loc) (ls1 : Array Slot), lwI S1 h0 v1 fa1 → lwH (dC, dI) A cq cp g0 pq S1 v1 fa1 H1 → va_S A s.heap H1 locs1 → lv_has ls1 4 [(3, .int (nI i)), (2, .ref g0), (1, .ref h0), (0, .ref b)] → W p l e room_1 s m #[Value.ref b] below meth c H1 locs1 (cells + 4) (slots + 134) (lw_Z below #[Value.ref b] s) (F0 m 1499 ls1 []))) : W p l e room_1 s m #[Value.ref b] below meth c H locs cells slots (lw_Z below #[Value.ref b] s) (F0 m 892 ls []) := by
  obtain ⟨hx, hb, hr, hml, hown, hts, hX, hbl, hlocks, hgv⟩ := id C0
  have hts := fun w h => hts w (wsL_law_in w h)
  have hown : s.vm.findClass RL = some m.cls := hown
  have hbA : ¬ A b := fun h => Nat.not_le.mpr hbl (hAq b h)
  refine lv_aload_n hx hb dL_law_892 rfl (lv_at hl 2 rfl) ?_
  refine lv_aload_n hx hb dL_law_893 rfl (lv_at hl 3 rfl) ?_
  refine lv_iload_n hx hb dL_law_894 rfl (lv_at hl 0 rfl) ?_
  refine lv_iconst (v := 1) hx hb dL_law_895 (by decide +kernel) ?_
  refine lv_iadd hx hb dL_law_896 ?_
  refine lv_topi (fun y_1 ey_1 => ?_)
  have hy_1 : y_1.toInt = (i : Int) + 1 := by rw [ey_1]; exact ad_i (nI_toInt (by omega)) (by decide +kernel) (by omega) (by omega)
  have ny_1 : y_1.toNatClampNeg = i + 1 := (show y_1.toInt.toNat = _ by omega)
  clear ey_1
  refine va_sld hx hb hX hbl hbA hS (vp_in_iff.mpr (by omega)) dL_law_897 ?_
  refine lv_topi (fun z_2 ez_2 => ?_)
  obtain rfl : z_2 = xs (i + 1) := ez_2.trans (by rw [ny_1])
  clear ny_1 hy_1
  refine lv_aload_n hx hb dL_law_898 rfl (lv_at hl 3 rfl) ?_
  refine lv_iload_n hx hb dL_law_899 rfl (lv_at hl 0 rfl) ?_
  refine lv_iconst (v := 2) hx hb dL_law_900 (by decide +kernel) ?_
  refine lv_iadd hx hb dL_law_901 ?_
  refine lv_topi (fun y_3 ey_3 => ?_)
  have hy_3 : y_3.toInt = (i : Int) + 2 := by rw [ey_3]; exact ad_i (nI_toInt (by omega)) (by decide +kernel) (by omega) (by omega)
  have ny_3 : y_3.toNatClampNeg = i + 2 := (show y_3.toInt.toNat = _ by omega)
  clear ey_3
  refine va_sld hx hb hX hbl hbA hS (vp_in_iff.mpr (by omega)) dL_law_902 ?_
  refine lv_topi (fun z_4 ez_4 => ?_)
  obtain rfl : z_4 = xs (i + 2) := ez_4.trans (by rw [ny_3])
  clear ny_3 hy_3
  obtain ⟨hI_o, to, gV, gA, hlw⟩ := id hJ
  obtain ⟨hPo, hDo, hPm, hDm, hdis⟩ := id hH
  have hFc := o_free hDo hS hA
  obtain ⟨q0, hq0⟩ := og (cq := cq) to.1 (oE_10 to.2)
  refine va_calli (va_runV (As := [.int (xs (i + 1)), .int (xs (i + 2))]) (rest := []) ⟨hx, hb, hml, hown, hts⟩ (c_X10_sold l dC dI H.size cq S hI_o h0 to (xs (i + 1)) (xs (i + 2))) (cwV 2 hts gL_law_X10_sold rfl rfl rfl (by decide +kernel) ⟨(Nat.le_of_ble_eq_true rfl), (Nat.le_of_ble_eq_true rfl)⟩) (pr_V (r := (RX10, TX10, 16)) hPo hKo hDo q0 10 rfl hq0) rfl rfl hl.1 rfl (lv_room (Nat.le_of_ble_eq_true rfl)) dL_law_903 ⟨(show cells + 0 ≤ 600000 by omega), (show slots + 0 ≤ 7302250 by omega)⟩) hS (fun q _ h => hFc q h) hFc (fun r_6 u t H locs ht hvm w_5 hB hz1 hk1 hS => ?_)
  obtain ⟨S9, rfl⟩ : ∃ z, z = u := ⟨_, rfl⟩
  obtain ⟨hP1, hK1, hD1⟩ := hB
  rw [ht] at hP1
  have hH := lwH_o hH hFc hk1 hP1 hD1
  clear hP1 hK1 hD1
  have hJ := lwI_o hJ w_5.1 w_5.2 (by decide +kernel)
  clear hk1 hz1 hvm ht hFc
  refine lv_pop hx hb dL_law_906 rfl ?_
  refine lv_aload_n hx hb dL_law_907 rfl (lv_at hl 1 rfl) ?_
  refine lv_aload_n hx hb dL_law_908 rfl (lv_at hl 3 rfl) ?_
  refine lv_iload_n hx hb dL_law_909 rfl (lv_at hl 0 rfl) ?_
  refine lv_iconst (v := 1) hx hb dL_law_910 (by decide +kernel) ?_
  refine lv_iadd hx hb dL_law_911 ?_
  refine lv_topi (fun y_7 ey_7 => ?_)
  have hy_7 : y_7.toInt = (i : Int) + 1 := by rw [ey_7]; exact ad_i (nI_toInt (by omega)) (by decide +kernel) (by omega) (by omega)
  have ny_7 : y_7.toNatClampNeg = i + 1 := (show y_7.toInt.toNat = _ by omega)
  clear ey_7
  refine va_sld hx hb hX hbl hbA hS (vp_in_iff.mpr (by omega)) dL_law_912 ?_
  refine lv_topi (fun z_8 ez_8 => ?_)
  obtain rfl : z_8 = xs (i + 1) := ez_8.trans (by rw [ny_7])
  clear ny_7 hy_7
  refine lv_aload_n hx hb dL_law_913 rfl (lv_at hl 3 rfl) ?_
  refine lv_iload_n hx hb dL_law_914 rfl (lv_at hl 0 rfl) ?_
  refine lv_iconst (v := 2) hx hb dL_law_915 (by decide +kernel) ?_
  refine lv_iadd hx hb dL_law_916 ?_
  refine lv_topi (fun y_9 ey_9 => ?_)
  have hy_9 : y_9.toInt = (i : Int) + 2 := by rw [ey_9]; exact ad_i (nI_toInt (by omega)) (by decide +kernel) (by omega) (by omega)
  have ny_9 : y_9.toNatClampNeg = i + 2 := (show y_9.toInt.toNat = _ by omega)
  clear ey_9
  refine va_sld hx hb hX hbl hbA hS (vp_in_iff.mpr (by omega)) dL_law_917 ?_
  refine lv_topi (fun z_10 ez_10 => ?_)
  obtain rfl : z_10 = xs (i + 2) := ez_10.trans (by rw [ny_9])
  clear ny_9 hy_9
  obtain ⟨hI_o, to, gV, gA, hlw⟩ := id hJ
  obtain ⟨hPo, hDo, hPm, hDm, hdis⟩ := id hH
  have hFc := o_free hDm hS hA
  refine va_calli (va_runV (As := [.int (xs (i + 1)), .int (xs (i + 2))]) (rest := []) ⟨hx, hb, hml, hown, hts⟩ (c_X11_sold l dC dI H.size g0 pq cp v fa gV gA (xs (i + 1)) (xs (i + 2))) (cwV 2 hts gL_law_X11_sold rfl rfl rfl (by decide +kernel) ⟨(Nat.le_of_ble_eq_true rfl), (Nat.le_of_ble_eq_true rfl)⟩) (pr_V (r := (RX11, TX11, 63)) hPm hKm hDm 0 11 rfl rfl) rfl rfl hl.1 rfl (lv_room (Nat.le_of_ble_eq_true rfl)) dL_law_918 ⟨(show cells + 0 ≤ 600000 by omega), (show slots + 0 ≤ 7302250 by omega)⟩) hS (fun q _ h => hFc q h) hFc (fun r_12 u t H locs ht hvm w_11 hB hz1 hk1 hS => ?_)
  obtain ⟨v1, fa1⟩ := u
  obtain ⟨hP1, hK1, hD1⟩ := hB
  rw [ht] at hP1
  dsimp only at hP1 hD1
  have hH := lwH_m hH hFc hk1 hP1 hD1
  clear hP1 hK1 hD1
  obtain ⟨hV1, hA1, hn1⟩ := w_11
  dsimp only at hV1 hA1 hn1
  have hJ := lwI_m hJ hV1 hA1 hn1 (by decide +kernel)
  clear hk1 hz1 hvm ht hFc
  refine lv_pop hx hb dL_law_921 rfl ?_
  refine lv_goto (tgt := 1499) hx hb dL_law_922 (by decide +kernel) ?_
  refine W.widen (k := cells + 4) (n := slots + 134) (by omega) (by omega) ?_
  exact K _ _ _ _ _ _ hJ hH hS hl
