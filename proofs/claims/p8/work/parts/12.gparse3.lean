theorem gw_X11_takes : wsX11_takes.all goodWord = true := by decide +kernel
theorem gw_X11_sum : wsX11_sum.all goodWord = true := by decide +kernel
set_option maxRecDepth 100000 in
theorem ggX11_unit_X11_sum : GoodIn wsX11_unit wsX11_sum := goodIn_sub (mmC (mmI il_X11_unit_2 8 rfl) (mmA (mmA (mmC (mmI il_X11_unit_1 0 rfl) (mmC (mmI il_X11_unit_1 1 rfl) (mmC (mmI il_X11_unit_2 9 rfl) (mmC (mmI il_X11_unit_2 10 rfl) (mmC (mmI il_X11_unit_2 11 rfl) (mmC (mmI il_X11_unit_1 7 rfl) (mmC (mmI il_X11_unit_1 4 rfl) (mmC (mmI il_X11_unit_1 5 rfl) (mmC (mmI il_X11_unit_1 6 rfl) (mmC (mmI il_X11_unit_1 8 rfl) (mmC (mmI il_X11_unit_1 9 rfl) (mmC (mmI il_X11_unit_1 10 rfl) (mmC (mmI il_X11_unit_1 11 rfl) (mmC (mmI il_X11_unit_1 12 rfl) (mmC (mmI il_X11_unit_1 16 rfl) (mmC (mmI il_X11_unit_1 17 rfl) (mmC (mmI il_X11_unit_1 18 rfl) (mmC (mmI il_X11_unit_1 19 rfl) (mmC (mmI il_X11_unit_1 20 rfl) (mmC (mmI il_X11_unit_2 12 rfl) (mmC (mmI il_X11_unit_2 13 rfl) (mmC (mmI il_X11_unit_2 14 rfl) (mmC (mmI il_X11_unit_2 15 rfl) (mmC (List.mem_cons_self) mmN)))))))))))))))))))))))) (mmC (mmI il_X11_unit_1 2 rfl) (mmC (mmI il_X11_unit_1 3 rfl) (mmC (mmI il_X11_unit_1 13 rfl) (mmC (mmI il_X11_unit_1 14 rfl) (mmC (mmI il_X11_unit_1 15 rfl) (mmC (mmI il_X11_unit_1 21 rfl) (mmC (mmI il_X11_unit_1 22 rfl) (mmC (mmI il_X11_unit_1 23 rfl) (mmC (mmI il_X11_unit_2 0 rfl) (mmC (mmI il_X11_unit_2 1 rfl) (mmC (mmI il_X11_unit_2 2 rfl) (mmC (mmI il_X11_unit_2 3 rfl) (mmC (mmI il_X11_unit_2 4 rfl) (mmC (mmI il_X11_unit_2 5 rfl) (mmC (mmI il_X11_unit_2 6 rfl) (mmC (mmI il_X11_unit_2 7 rfl) mmN))))))))))))))))) il_X11_unit_3)) gw_X11_sum
theorem gX11_unit_X11_sum : GoodIn wsX11_unit (wsV RX11 250 RX11 yX11_sum wsX11_sum) := goodIn_app (goodIn_sub (mmC (mmI il_X11_unit_2 1 rfl) (mmC (mmI il_X11_unit_2 2 rfl) (mmC (mmI il_X11_unit_2 3 rfl) (mmC (mmI il_X11_unit_1 7 rfl) mmN)))) (by decide +kernel)) ggX11_unit_X11_sum
set_option maxRecDepth 100000 in
theorem ggX11_unit_X11_takes : GoodIn wsX11_unit wsX11_takes := goodIn_sub (mmC (mmI il_X11_unit_2 7 rfl) (mmA (mmC (mmI il_X11_unit_1 0 rfl) (mmC (mmI il_X11_unit_1 1 rfl) (mmC (mmI il_X11_unit_1 4 rfl) (mmC (mmI il_X11_unit_1 5 rfl) (mmC (mmI il_X11_unit_1 6 rfl) (mmC (mmI il_X11_unit_1 7 rfl) (mmC (mmI il_X11_unit_1 8 rfl) (mmC (mmI il_X11_unit_1 9 rfl) (mmC (mmI il_X11_unit_1 10 rfl) (mmC (mmI il_X11_unit_1 11 rfl) (mmC (mmI il_X11_unit_1 12 rfl) mmN))))))))))) il_X11_unit_3)) gw_X11_takes
theorem gX11_unit_X11_takes : GoodIn wsX11_unit (wsV RX11 253 RX11 yX11_takes wsX11_takes) := goodIn_app (goodIn_sub (mmC (mmI il_X11_unit_2 4 rfl) (mmC (mmI il_X11_unit_2 5 rfl) (mmC (mmI il_X11_unit_2 6 rfl) (mmC (mmI il_X11_unit_1 7 rfl) mmN)))) (by decide +kernel)) ggX11_unit_X11_takes
theorem dX11_unit_61 : decode cX11_unit 61 = .ok (.aload_n 0, 1) := by decide +kernel
theorem dX11_unit_62 : decode cX11_unit 62 = .ok (.dup, 1) := by decide +kernel
theorem dX11_unit_63 : decode cX11_unit 63 = .ok (.getfield 210, 3) := by decide +kernel
theorem dX11_unit_66 : decode cX11_unit 66 = .ok (.iconst 1, 1) := by decide +kernel
theorem dX11_unit_67 : decode cX11_unit 67 = .ok (.iadd, 1) := by decide +kernel
theorem dX11_unit_68 : decode cX11_unit 68 = .ok (.putfield 210, 3) := by decide +kernel
theorem dX11_unit_71 : decode cX11_unit 71 = .ok (.aload_n 0, 1) := by decide +kernel
theorem dX11_unit_72 : decode cX11_unit 72 = .ok (.dup, 1) := by decide +kernel
theorem dX11_unit_73 : decode cX11_unit 73 = .ok (.getfield 244, 3) := by decide +kernel
theorem dX11_unit_76 : decode cX11_unit 76 = .ok (.iconst 1, 1) := by decide +kernel
theorem dX11_unit_77 : decode cX11_unit 77 = .ok (.iadd, 1) := by decide +kernel
theorem dX11_unit_78 : decode cX11_unit 78 = .ok (.putfield 244, 3) := by decide +kernel
theorem dX11_unit_81 : decode cX11_unit 81 = .ok (.aload_n 0, 1) := by decide +kernel
theorem dX11_unit_82 : decode cX11_unit 82 = .ok (.invokevirtual 250, 3) := by decide +kernel
theorem dX11_unit_85 : decode cX11_unit 85 = .ok (.istore_n 2, 1) := by decide +kernel
theorem dX11_unit_86 : decode cX11_unit 86 = .ok (.aload_n 0, 1) := by decide +kernel
theorem dX11_unit_87 : decode cX11_unit 87 = .ok (.invokevirtual 227, 3) := by decide +kernel
theorem dX11_unit_90 : decode cX11_unit 90 = .ok (.istore_n 3, 1) := by decide +kernel
theorem dX11_unit_91 : decode cX11_unit 91 = .ok (.aload_n 0, 1) := by decide +kernel
theorem dX11_unit_92 : decode cX11_unit 92 = .ok (.getfield 223, 3) := by decide +kernel
theorem dX11_unit_95 : decode cX11_unit 95 = .ok (.ifCond .eq 89, 3) := by decide +kernel
theorem dX11_unit_98 : decode cX11_unit 98 = .ok (.iload_n 3, 1) := by decide +kernel
theorem dX11_unit_99 : decode cX11_unit 99 = .ok (.bipush 60, 2) := by decide +kernel
theorem dX11_unit_101 : decode cX11_unit 101 = .ok (.if_icmp .eq 15, 3) := by decide +kernel
theorem dX11_unit_104 : decode cX11_unit 104 = .ok (.iload_n 3, 1) := by decide +kernel
theorem dX11_unit_105 : decode cX11_unit 105 = .ok (.bipush 61, 2) := by decide +kernel
theorem dX11_unit_107 : decode cX11_unit 107 = .ok (.if_icmp .eq 9, 3) := by decide +kernel
theorem dX11_unit_110 : decode cX11_unit 110 = .ok (.iload_n 3, 1) := by decide +kernel
theorem dX11_unit_111 : decode cX11_unit 111 = .ok (.bipush 62, 2) := by decide +kernel
theorem dX11_unit_113 : decode cX11_unit 113 = .ok (.if_icmp .ne 71, 3) := by decide +kernel
theorem dX11_unit_116 : decode cX11_unit 116 = .ok (.aload_n 0, 1) := by decide +kernel
theorem dX11_unit_117 : decode cX11_unit 117 = .ok (.dup, 1) := by decide +kernel
theorem dX11_unit_118 : decode cX11_unit 118 = .ok (.getfield 210, 3) := by decide +kernel
theorem dX11_unit_121 : decode cX11_unit 121 = .ok (.iconst 1, 1) := by decide +kernel
theorem dX11_unit_122 : decode cX11_unit 122 = .ok (.iadd, 1) := by decide +kernel
theorem dX11_unit_123 : decode cX11_unit 123 = .ok (.putfield 210, 3) := by decide +kernel
theorem dX11_unit_126 : decode cX11_unit 126 = .ok (.aload_n 0, 1) := by decide +kernel
theorem dX11_unit_127 : decode cX11_unit 127 = .ok (.invokevirtual 250, 3) := by decide +kernel
theorem dX11_unit_130 : decode cX11_unit 130 = .ok (.istore 4, 2) := by decide +kernel
theorem dX11_unit_132 : decode cX11_unit 132 = .ok (.iload_n 3, 1) := by decide +kernel
theorem dX11_unit_133 : decode cX11_unit 133 = .ok (.bipush 60, 2) := by decide +kernel
theorem dX11_unit_135 : decode cX11_unit 135 = .ok (.if_icmp .ne 17, 3) := by decide +kernel
theorem dX11_unit_138 : decode cX11_unit 138 = .ok (.iload_n 2, 1) := by decide +kernel
theorem dX11_unit_139 : decode cX11_unit 139 = .ok (.iload 4, 2) := by decide +kernel
theorem dX11_unit_141 : decode cX11_unit 141 = .ok (.if_icmp .ge 7, 3) := by decide +kernel
theorem dX11_unit_144 : decode cX11_unit 144 = .ok (.iconst 1, 1) := by decide +kernel
theorem dX11_unit_145 : decode cX11_unit 145 = .ok (.goto 38, 3) := by decide +kernel
theorem dX11_unit_148 : decode cX11_unit 148 = .ok (.iconst 0, 1) := by decide +kernel
theorem dX11_unit_149 : decode cX11_unit 149 = .ok (.goto 34, 3) := by decide +kernel
theorem dX11_unit_152 : decode cX11_unit 152 = .ok (.iload_n 3, 1) := by decide +kernel
theorem dX11_unit_153 : decode cX11_unit 153 = .ok (.bipush 61, 2) := by decide +kernel
theorem dX11_unit_155 : decode cX11_unit 155 = .ok (.if_icmp .ne 17, 3) := by decide +kernel
theorem dX11_unit_158 : decode cX11_unit 158 = .ok (.iload_n 2, 1) := by decide +kernel
theorem dX11_unit_159 : decode cX11_unit 159 = .ok (.iload 4, 2) := by decide +kernel
theorem dX11_unit_161 : decode cX11_unit 161 = .ok (.if_icmp .ne 7, 3) := by decide +kernel
theorem dX11_unit_164 : decode cX11_unit 164 = .ok (.iconst 1, 1) := by decide +kernel
theorem dX11_unit_165 : decode cX11_unit 165 = .ok (.goto 18, 3) := by decide +kernel
theorem dX11_unit_168 : decode cX11_unit 168 = .ok (.iconst 0, 1) := by decide +kernel
theorem dX11_unit_169 : decode cX11_unit 169 = .ok (.goto 14, 3) := by decide +kernel
theorem dX11_unit_172 : decode cX11_unit 172 = .ok (.iload_n 2, 1) := by decide +kernel
theorem dX11_unit_173 : decode cX11_unit 173 = .ok (.iload 4, 2) := by decide +kernel
theorem dX11_unit_175 : decode cX11_unit 175 = .ok (.if_icmp .le 7, 3) := by decide +kernel
theorem dX11_unit_178 : decode cX11_unit 178 = .ok (.iconst 1, 1) := by decide +kernel
theorem dX11_unit_179 : decode cX11_unit 179 = .ok (.goto 4, 3) := by decide +kernel
theorem dX11_unit_182 : decode cX11_unit 182 = .ok (.iconst 0, 1) := by decide +kernel
theorem dX11_unit_183 : decode cX11_unit 183 = .ok (.istore_n 2, 1) := by decide +kernel
theorem dX11_unit_184 : decode cX11_unit 184 = .ok (.aload_n 0, 1) := by decide +kernel
theorem dX11_unit_185 : decode cX11_unit 185 = .ok (.bipush 41, 2) := by decide +kernel
theorem dX11_unit_187 : decode cX11_unit 187 = .ok (.invokevirtual 253, 3) := by decide +kernel
theorem dX11_unit_190 : decode cX11_unit 190 = .ok (.ifCond .ne 8, 3) := by decide +kernel
theorem dX11_unit_193 : decode cX11_unit 193 = .ok (.aload_n 0, 1) := by decide +kernel
theorem dX11_unit_194 : decode cX11_unit 194 = .ok (.invokevirtual 247, 3) := by decide +kernel
theorem dX11_unit_197 : decode cX11_unit 197 = .ok (.ireturn, 1) := by decide +kernel
theorem dX11_unit_198 : decode cX11_unit 198 = .ok (.aload_n 0, 1) := by decide +kernel
theorem dX11_unit_199 : decode cX11_unit 199 = .ok (.dup, 1) := by decide +kernel
theorem dX11_unit_200 : decode cX11_unit 200 = .ok (.getfield 244, 3) := by decide +kernel
theorem dX11_unit_203 : decode cX11_unit 203 = .ok (.iconst 1, 1) := by decide +kernel
theorem dX11_unit_204 : decode cX11_unit 204 = .ok (.isub, 1) := by decide +kernel
theorem dX11_unit_205 : decode cX11_unit 205 = .ok (.putfield 244, 3) := by decide +kernel
theorem dX11_unit_208 : decode cX11_unit 208 = .ok (.iload_n 2, 1) := by decide +kernel
theorem dX11_unit_209 : decode cX11_unit 209 = .ok (.ireturn, 1) := by decide +kernel

