theorem dX2_isWay_21 : decode cX2_isWay 21 = .ok (.iconst 0, 1) := by decide +kernel
theorem dX2_isWay_22 : decode cX2_isWay 22 = .ok (.ireturn, 1) := by decide +kernel
theorem dX2_compare_0 : decode cX2_compare 0 = .ok (.aload_n 0, 1) := by decide +kernel
theorem dX2_compare_1 : decode cX2_compare 1 = .ok (.getfield 13, 3) := by decide +kernel
theorem dX2_compare_4 : decode cX2_compare 4 = .ok (.iload_n 1, 1) := by decide +kernel
theorem dX2_compare_5 : decode cX2_compare 5 = .ok (.baload, 1) := by decide +kernel
theorem dX2_compare_6 : decode cX2_compare 6 = .ok (.ifCond .eq 12, 3) := by decide +kernel
theorem dX2_compare_9 : decode cX2_compare 9 = .ok (.aload_n 0, 1) := by decide +kernel
theorem dX2_compare_10 : decode cX2_compare 10 = .ok (.getfield 13, 3) := by decide +kernel
theorem dX2_compare_13 : decode cX2_compare 13 = .ok (.iload_n 2, 1) := by decide +kernel
theorem dX2_compare_14 : decode cX2_compare 14 = .ok (.baload, 1) := by decide +kernel
theorem dX2_compare_15 : decode cX2_compare 15 = .ok (.ifCond .ne 5, 3) := by decide +kernel
theorem dX2_compare_18 : decode cX2_compare 18 = .ok (.iconst 3, 1) := by decide +kernel
theorem dX2_compare_19 : decode cX2_compare 19 = .ok (.ireturn, 1) := by decide +kernel
theorem dX2_compare_20 : decode cX2_compare 20 = .ok (.aload_n 0, 1) := by decide +kernel
theorem dX2_compare_21 : decode cX2_compare 21 = .ok (.getfield 7, 3) := by decide +kernel
theorem dX2_compare_24 : decode cX2_compare 24 = .ok (.iload_n 1, 1) := by decide +kernel
theorem dX2_compare_25 : decode cX2_compare 25 = .ok (.daload, 1) := by decide +kernel
theorem dX2_compare_26 : decode cX2_compare 26 = .ok (.aload_n 0, 1) := by decide +kernel
theorem dX2_compare_27 : decode cX2_compare 27 = .ok (.getfield 7, 3) := by decide +kernel
theorem dX2_compare_30 : decode cX2_compare 30 = .ok (.iload_n 2, 1) := by decide +kernel
theorem dX2_compare_31 : decode cX2_compare 31 = .ok (.daload, 1) := by decide +kernel
theorem dX2_compare_32 : decode cX2_compare 32 = .ok (.dcmp .g, 1) := by decide +kernel
theorem dX2_compare_33 : decode cX2_compare 33 = .ok (.ifCond .ge 7, 3) := by decide +kernel
theorem dX2_compare_36 : decode cX2_compare 36 = .ok (.iconst 0, 1) := by decide +kernel
theorem dX2_compare_37 : decode cX2_compare 37 = .ok (.goto 24, 3) := by decide +kernel
theorem dX2_compare_40 : decode cX2_compare 40 = .ok (.aload_n 0, 1) := by decide +kernel
theorem dX2_compare_41 : decode cX2_compare 41 = .ok (.getfield 7, 3) := by decide +kernel
theorem dX2_compare_44 : decode cX2_compare 44 = .ok (.iload_n 1, 1) := by decide +kernel
theorem dX2_compare_45 : decode cX2_compare 45 = .ok (.daload, 1) := by decide +kernel
theorem dX2_compare_46 : decode cX2_compare 46 = .ok (.aload_n 0, 1) := by decide +kernel
theorem dX2_compare_47 : decode cX2_compare 47 = .ok (.getfield 7, 3) := by decide +kernel
theorem dX2_compare_50 : decode cX2_compare 50 = .ok (.iload_n 2, 1) := by decide +kernel
theorem dX2_compare_51 : decode cX2_compare 51 = .ok (.daload, 1) := by decide +kernel
theorem dX2_compare_52 : decode cX2_compare 52 = .ok (.dcmp .l, 1) := by decide +kernel
theorem dX2_compare_53 : decode cX2_compare 53 = .ok (.ifCond .ne 7, 3) := by decide +kernel
theorem dX2_compare_56 : decode cX2_compare 56 = .ok (.iconst 1, 1) := by decide +kernel
theorem dX2_compare_57 : decode cX2_compare 57 = .ok (.goto 4, 3) := by decide +kernel
theorem dX2_compare_60 : decode cX2_compare 60 = .ok (.iconst 2, 1) := by decide +kernel
theorem dX2_compare_61 : decode cX2_compare 61 = .ok (.ireturn, 1) := by decide +kernel
set_option maxRecDepth 20000 in
theorem ggX2_isSo_X2_cell : GoodIn wsX2_isSo wsX2_cell := goodIn_r _ [4] (by decide +kernel) (by decide +kernel)
set_option maxRecDepth 20000 in
theorem gX2_isSo_X2_cell : GoodIn wsX2_isSo (va_wsS RX2 39 yX2_cell wsX2_cell) := goodIn_app (goodIn_of _ (by decide +kernel)) ggX2_isSo_X2_cell
set_option maxRecDepth 20000 in
theorem ggX2_isSo_X2_limit : GoodIn wsX2_isSo wsX2_limit := goodIn_r _ [7] (by decide +kernel) (by decide +kernel)
set_option maxRecDepth 20000 in
theorem gX2_isSo_X2_limit : GoodIn wsX2_isSo (va_wsS RX2 43 yX2_limit wsX2_limit) := goodIn_app (goodIn_of _ (by decide +kernel)) ggX2_isSo_X2_limit
set_option maxRecDepth 20000 in
theorem ggX2_isSo_X2_compare : GoodIn wsX2_isSo wsX2_compare := goodIn_r _ [11, 12, 13, 14, 15, 16, 17, 18, 19] (by decide +kernel) (by decide +kernel)
set_option maxRecDepth 20000 in
theorem gX2_isSo_X2_compare : GoodIn wsX2_isSo (wsV RX2 47 RX2 yX2_compare wsX2_compare) := goodIn_app (goodIn_of _ (by decide +kernel)) ggX2_isSo_X2_compare
theorem dX2_isSo_0 : decode cX2_isSo 0 = .ok (.iload_n 1, 1) := by decide +kernel
theorem dX2_isSo_1 : decode cX2_isSo 1 = .ok (.iload_n 2, 1) := by decide +kernel
theorem dX2_isSo_2 : decode cX2_isSo 2 = .ok (.iload_n 3, 1) := by decide +kernel
theorem dX2_isSo_3 : decode cX2_isSo 3 = .ok (.invokestatic 39, 3) := by decide +kernel
theorem dX2_isSo_6 : decode cX2_isSo 6 = .ok (.istore 5, 2) := by decide +kernel
theorem dX2_isSo_8 : decode cX2_isSo 8 = .ok (.iload_n 1, 1) := by decide +kernel
theorem dX2_isSo_9 : decode cX2_isSo 9 = .ok (.iload_n 3, 1) := by decide +kernel
theorem dX2_isSo_10 : decode cX2_isSo 10 = .ok (.invokestatic 43, 3) := by decide +kernel
theorem dX2_isSo_13 : decode cX2_isSo 13 = .ok (.istore 6, 2) := by decide +kernel
theorem dX2_isSo_15 : decode cX2_isSo 15 = .ok (.iload 4, 2) := by decide +kernel
theorem dX2_isSo_17 : decode cX2_isSo 17 = .ok (.bipush 12, 2) := by decide +kernel
theorem dX2_isSo_19 : decode cX2_isSo 19 = .ok (.if_icmp .ge 14, 3) := by decide +kernel
theorem dX2_isSo_22 : decode cX2_isSo 22 = .ok (.aload_n 0, 1) := by decide +kernel
theorem dX2_isSo_23 : decode cX2_isSo 23 = .ok (.iload 5, 2) := by decide +kernel
theorem dX2_isSo_25 : decode cX2_isSo 25 = .ok (.iload 6, 2) := by decide +kernel
theorem dX2_isSo_27 : decode cX2_isSo 27 = .ok (.invokevirtual 47, 3) := by decide +kernel
theorem dX2_isSo_30 : decode cX2_isSo 30 = .ok (.goto 11, 3) := by decide +kernel
theorem dX2_isSo_33 : decode cX2_isSo 33 = .ok (.aload_n 0, 1) := by decide +kernel
theorem dX2_isSo_34 : decode cX2_isSo 34 = .ok (.iload 6, 2) := by decide +kernel
theorem dX2_isSo_36 : decode cX2_isSo 36 = .ok (.iload 5, 2) := by decide +kernel
theorem dX2_isSo_38 : decode cX2_isSo 38 = .ok (.invokevirtual 47, 3) := by decide +kernel
theorem dX2_isSo_41 : decode cX2_isSo 41 = .ok (.istore 7, 2) := by decide +kernel
theorem dX2_isSo_43 : decode cX2_isSo 43 = .ok (.iload 4, 2) := by decide +kernel
theorem dX2_isSo_45 : decode cX2_isSo 45 = .ok (.bipush 6, 2) := by decide +kernel
theorem dX2_isSo_47 : decode cX2_isSo 47 = .ok (.irem, 1) := by decide +kernel
theorem dX2_isSo_48 : decode cX2_isSo 48 = .ok (.istore 8, 2) := by decide +kernel
theorem dX2_isSo_50 : decode cX2_isSo 50 = .ok (.iload 8, 2) := by decide +kernel
theorem dX2_isSo_52 : decode cX2_isSo 52 = .ok (.tableswitch 126 0 4 #[36, 51, 72, 88, 110], 36) := by decide +kernel
theorem dX2_isSo_88 : decode cX2_isSo 88 = .ok (.iload 7, 2) := by decide +kernel
theorem dX2_isSo_90 : decode cX2_isSo 90 = .ok (.ifCond .ne 7, 3) := by decide +kernel
theorem dX2_isSo_93 : decode cX2_isSo 93 = .ok (.iconst 1, 1) := by decide +kernel
theorem dX2_isSo_94 : decode cX2_isSo 94 = .ok (.goto 4, 3) := by decide +kernel
theorem dX2_isSo_97 : decode cX2_isSo 97 = .ok (.iconst 0, 1) := by decide +kernel
theorem dX2_isSo_98 : decode cX2_isSo 98 = .ok (.istore 9, 2) := by decide +kernel
theorem dX2_isSo_100 : decode cX2_isSo 100 = .ok (.goto 91, 3) := by decide +kernel
theorem dX2_isSo_103 : decode cX2_isSo 103 = .ok (.iload 7, 2) := by decide +kernel
theorem dX2_isSo_105 : decode cX2_isSo 105 = .ok (.ifCond .eq 9, 3) := by decide +kernel
theorem dX2_isSo_108 : decode cX2_isSo 108 = .ok (.iload 7, 2) := by decide +kernel
theorem dX2_isSo_110 : decode cX2_isSo 110 = .ok (.iconst 1, 1) := by decide +kernel
theorem dX2_isSo_111 : decode cX2_isSo 111 = .ok (.if_icmp .ne 7, 3) := by decide +kernel
theorem dX2_isSo_114 : decode cX2_isSo 114 = .ok (.iconst 1, 1) := by decide +kernel
theorem dX2_isSo_115 : decode cX2_isSo 115 = .ok (.goto 4, 3) := by decide +kernel
theorem dX2_isSo_118 : decode cX2_isSo 118 = .ok (.iconst 0, 1) := by decide +kernel
theorem dX2_isSo_119 : decode cX2_isSo 119 = .ok (.istore 9, 2) := by decide +kernel
theorem dX2_isSo_121 : decode cX2_isSo 121 = .ok (.goto 70, 3) := by decide +kernel
theorem dX2_isSo_124 : decode cX2_isSo 124 = .ok (.iload 7, 2) := by decide +kernel
theorem dX2_isSo_126 : decode cX2_isSo 126 = .ok (.iconst 2, 1) := by decide +kernel
theorem dX2_isSo_127 : decode cX2_isSo 127 = .ok (.if_icmp .ne 7, 3) := by decide +kernel
theorem dX2_isSo_130 : decode cX2_isSo 130 = .ok (.iconst 1, 1) := by decide +kernel
theorem dX2_isSo_131 : decode cX2_isSo 131 = .ok (.goto 4, 3) := by decide +kernel
theorem dX2_isSo_134 : decode cX2_isSo 134 = .ok (.iconst 0, 1) := by decide +kernel
theorem dX2_isSo_135 : decode cX2_isSo 135 = .ok (.istore 9, 2) := by decide +kernel
theorem dX2_isSo_137 : decode cX2_isSo 137 = .ok (.goto 54, 3) := by decide +kernel
theorem dX2_isSo_140 : decode cX2_isSo 140 = .ok (.iload 7, 2) := by decide +kernel
theorem dX2_isSo_142 : decode cX2_isSo 142 = .ok (.iconst 2, 1) := by decide +kernel
theorem dX2_isSo_143 : decode cX2_isSo 143 = .ok (.if_icmp .eq 9, 3) := by decide +kernel
theorem dX2_isSo_146 : decode cX2_isSo 146 = .ok (.iload 7, 2) := by decide +kernel
theorem dX2_isSo_148 : decode cX2_isSo 148 = .ok (.iconst 1, 1) := by decide +kernel
theorem dX2_isSo_149 : decode cX2_isSo 149 = .ok (.if_icmp .ne 7, 3) := by decide +kernel
theorem dX2_isSo_152 : decode cX2_isSo 152 = .ok (.iconst 1, 1) := by decide +kernel
theorem dX2_isSo_153 : decode cX2_isSo 153 = .ok (.goto 4, 3) := by decide +kernel
theorem dX2_isSo_156 : decode cX2_isSo 156 = .ok (.iconst 0, 1) := by decide +kernel
theorem dX2_isSo_157 : decode cX2_isSo 157 = .ok (.istore 9, 2) := by decide +kernel
theorem dX2_isSo_159 : decode cX2_isSo 159 = .ok (.goto 32, 3) := by decide +kernel
theorem dX2_isSo_162 : decode cX2_isSo 162 = .ok (.iload 7, 2) := by decide +kernel
theorem dX2_isSo_164 : decode cX2_isSo 164 = .ok (.iconst 1, 1) := by decide +kernel
theorem dX2_isSo_165 : decode cX2_isSo 165 = .ok (.if_icmp .ne 7, 3) := by decide +kernel
theorem dX2_isSo_168 : decode cX2_isSo 168 = .ok (.iconst 1, 1) := by decide +kernel
theorem dX2_isSo_169 : decode cX2_isSo 169 = .ok (.goto 4, 3) := by decide +kernel
theorem dX2_isSo_172 : decode cX2_isSo 172 = .ok (.iconst 0, 1) := by decide +kernel
theorem dX2_isSo_173 : decode cX2_isSo 173 = .ok (.istore 9, 2) := by decide +kernel
theorem dX2_isSo_175 : decode cX2_isSo 175 = .ok (.goto 16, 3) := by decide +kernel
theorem dX2_isSo_178 : decode cX2_isSo 178 = .ok (.iload 7, 2) := by decide +kernel
theorem dX2_isSo_180 : decode cX2_isSo 180 = .ok (.iconst 1, 1) := by decide +kernel
theorem dX2_isSo_181 : decode cX2_isSo 181 = .ok (.if_icmp .eq 7, 3) := by decide +kernel
theorem dX2_isSo_184 : decode cX2_isSo 184 = .ok (.iconst 1, 1) := by decide +kernel
theorem dX2_isSo_185 : decode cX2_isSo 185 = .ok (.goto 4, 3) := by decide +kernel
theorem dX2_isSo_188 : decode cX2_isSo 188 = .ok (.iconst 0, 1) := by decide +kernel
theorem dX2_isSo_189 : decode cX2_isSo 189 = .ok (.istore 9, 2) := by decide +kernel
theorem dX2_isSo_191 : decode cX2_isSo 191 = .ok (.iload 4, 2) := by decide +kernel
theorem dX2_isSo_193 : decode cX2_isSo 193 = .ok (.bipush 6, 2) := by decide +kernel
theorem dX2_isSo_195 : decode cX2_isSo 195 = .ok (.idiv, 1) := by decide +kernel
theorem dX2_isSo_196 : decode cX2_isSo 196 = .ok (.iconst 1, 1) := by decide +kernel
theorem dX2_isSo_197 : decode cX2_isSo 197 = .ok (.if_icmp .eq 12, 3) := by decide +kernel
theorem dX2_isSo_200 : decode cX2_isSo 200 = .ok (.iload 4, 2) := by decide +kernel
theorem dX2_isSo_202 : decode cX2_isSo 202 = .ok (.bipush 6, 2) := by decide +kernel
theorem dX2_isSo_204 : decode cX2_isSo 204 = .ok (.idiv, 1) := by decide +kernel
theorem dX2_isSo_205 : decode cX2_isSo 205 = .ok (.iconst 3, 1) := by decide +kernel
theorem dX2_isSo_206 : decode cX2_isSo 206 = .ok (.if_icmp .ne 7, 3) := by decide +kernel
theorem dX2_isSo_209 : decode cX2_isSo 209 = .ok (.iconst 1, 1) := by decide +kernel
theorem dX2_isSo_210 : decode cX2_isSo 210 = .ok (.goto 4, 3) := by decide +kernel
theorem dX2_isSo_213 : decode cX2_isSo 213 = .ok (.iconst 0, 1) := by decide +kernel
theorem dX2_isSo_214 : decode cX2_isSo 214 = .ok (.istore 10, 2) := by decide +kernel
theorem dX2_isSo_216 : decode cX2_isSo 216 = .ok (.iload 9, 2) := by decide +kernel
theorem dX2_isSo_218 : decode cX2_isSo 218 = .ok (.iload 10, 2) := by decide +kernel
theorem dX2_isSo_220 : decode cX2_isSo 220 = .ok (.if_icmp .eq 7, 3) := by decide +kernel
theorem dX2_isSo_223 : decode cX2_isSo 223 = .ok (.iconst 1, 1) := by decide +kernel
theorem dX2_isSo_224 : decode cX2_isSo 224 = .ok (.goto 4, 3) := by decide +kernel
theorem dX2_isSo_227 : decode cX2_isSo 227 = .ok (.iconst 0, 1) := by decide +kernel
theorem dX2_isSo_228 : decode cX2_isSo 228 = .ok (.ireturn, 1) := by decide +kernel
theorem dX2_become_0 : decode cX2_become 0 = .ok (.aload_n 0, 1) := by decide +kernel
theorem dX2_become_1 : decode cX2_become 1 = .ok (.getfield 7, 3) := by decide +kernel
theorem dX2_become_4 : decode cX2_become 4 = .ok (.iload_n 1, 1) := by decide +kernel
theorem dX2_become_5 : decode cX2_become 5 = .ok (.dload_n 2, 1) := by decide +kernel
theorem dX2_become_6 : decode cX2_become 6 = .ok (.dastore, 1) := by decide +kernel
theorem dX2_become_7 : decode cX2_become 7 = .ok (.aload_n 0, 1) := by decide +kernel
theorem dX2_become_8 : decode cX2_become 8 = .ok (.getfield 13, 3) := by decide +kernel
theorem dX2_become_11 : decode cX2_become 11 = .ok (.iload_n 1, 1) := by decide +kernel
theorem dX2_become_12 : decode cX2_become 12 = .ok (.iconst 1, 1) := by decide +kernel
theorem dX2_become_13 : decode cX2_become 13 = .ok (.bastore, 1) := by decide +kernel
theorem dX2_become_14 : decode cX2_become 14 = .ok (.return_, 1) := by decide +kernel
theorem dX2_entry_0 : decode cX2_entry 0 = .ok (.aload_n 0, 1) := by decide +kernel
theorem dX2_entry_1 : decode cX2_entry 1 = .ok (.aload_n 0, 1) := by decide +kernel
theorem dX2_entry_2 : decode cX2_entry 2 = .ok (.getfield 28, 3) := by decide +kernel
theorem dX2_entry_5 : decode cX2_entry 5 = .ok (.bipush 6, 2) := by decide +kernel
theorem dX2_entry_7 : decode cX2_entry 7 = .ok (.if_icmp .ne 7, 3) := by decide +kernel
theorem dX2_entry_10 : decode cX2_entry 10 = .ok (.iconst 1, 1) := by decide +kernel
theorem dX2_entry_11 : decode cX2_entry 11 = .ok (.goto 4, 3) := by decide +kernel
theorem dX2_entry_14 : decode cX2_entry 14 = .ok (.iconst 0, 1) := by decide +kernel
theorem dX2_entry_15 : decode cX2_entry 15 = .ok (.putfield 24, 3) := by decide +kernel
theorem dX2_entry_18 : decode cX2_entry 18 = .ok (.aload_n 0, 1) := by decide +kernel
theorem dX2_entry_19 : decode cX2_entry 19 = .ok (.getfield 24, 3) := by decide +kernel
theorem dX2_entry_22 : decode cX2_entry 22 = .ok (.ifCond .le 5, 3) := by decide +kernel
theorem dX2_entry_25 : decode cX2_entry 25 = .ok (.iconst 0, 1) := by decide +kernel
theorem dX2_entry_26 : decode cX2_entry 26 = .ok (.ireturn, 1) := by decide +kernel
theorem dX2_entry_27 : decode cX2_entry 27 = .ok (.aload_n 0, 1) := by decide +kernel
theorem dX2_entry_28 : decode cX2_entry 28 = .ok (.dup, 1) := by decide +kernel
theorem dX2_entry_29 : decode cX2_entry 29 = .ok (.getfield 28, 3) := by decide +kernel
theorem dX2_entry_32 : decode cX2_entry 32 = .ok (.iconst 1, 1) := by decide +kernel
theorem dX2_entry_33 : decode cX2_entry 33 = .ok (.iadd, 1) := by decide +kernel
theorem dX2_entry_34 : decode cX2_entry 34 = .ok (.putfield 28, 3) := by decide +kernel
theorem dX2_entry_37 : decode cX2_entry 37 = .ok (.aload_n 0, 1) := by decide +kernel
theorem dX2_entry_38 : decode cX2_entry 38 = .ok (.getfield 28, 3) := by decide +kernel
theorem dX2_entry_41 : decode cX2_entry 41 = .ok (.iconst 1, 1) := by decide +kernel
theorem dX2_entry_42 : decode cX2_entry 42 = .ok (.isub, 1) := by decide +kernel
theorem dX2_entry_43 : decode cX2_entry 43 = .ok (.ireturn, 1) := by decide +kernel
set_option maxRecDepth 20000 in
theorem ggX2_mark_X2_hasEntry : GoodIn wsX2_mark wsX2_hasEntry := goodIn_r _ [6, 7, 8, 9, 5, 10, 11, 12, 13, 14, 1, 28, 29, 30, 31, 32, 33] (by decide +kernel) (by decide +kernel)
set_option maxRecDepth 20000 in
theorem gX2_mark_X2_hasEntry : GoodIn wsX2_mark (wsV RX2 51 RX2 yX2_hasEntry wsX2_hasEntry) := goodIn_app (goodIn_of _ (by decide +kernel)) ggX2_mark_X2_hasEntry
set_option maxRecDepth 20000 in
theorem ggX2_mark_X2_hasSeat : GoodIn wsX2_mark wsX2_hasSeat := goodIn_r _ [18, 8, 9, 5, 10, 11, 12, 13, 14, 1, 28, 29, 30, 31, 32, 33] (by decide +kernel) (by decide +kernel)
set_option maxRecDepth 20000 in
theorem gX2_mark_X2_hasSeat : GoodIn wsX2_mark (wsV RX2 54 RX2 yX2_hasSeat wsX2_hasSeat) := goodIn_app (goodIn_of _ (by decide +kernel)) ggX2_mark_X2_hasSeat
set_option maxRecDepth 20000 in
theorem ggX2_mark_X2_cell : GoodIn wsX2_mark wsX2_cell := goodIn_r _ [21] (by decide +kernel) (by decide +kernel)
set_option maxRecDepth 20000 in
theorem gX2_mark_X2_cell : GoodIn wsX2_mark (va_wsS RX2 39 yX2_cell wsX2_cell) := goodIn_app (goodIn_of _ (by decide +kernel)) ggX2_mark_X2_cell
set_option maxRecDepth 20000 in
theorem ggX2_mark_X2_become : GoodIn wsX2_mark wsX2_become := goodIn_r _ [25, 26, 27, 28, 29, 30, 31, 32, 33] (by decide +kernel) (by decide +kernel)
set_option maxRecDepth 20000 in
theorem gX2_mark_X2_become : GoodIn wsX2_mark (wsV RX2 57 RX2 yX2_become wsX2_become) := goodIn_app (goodIn_of _ (by decide +kernel)) ggX2_mark_X2_become
theorem dX2_mark_0 : decode cX2_mark 0 = .ok (.aload_n 0, 1) := by decide +kernel
theorem dX2_mark_1 : decode cX2_mark 1 = .ok (.iconst 0, 1) := by decide +kernel
theorem dX2_mark_2 : decode cX2_mark 2 = .ok (.putfield 24, 3) := by decide +kernel
theorem dX2_mark_5 : decode cX2_mark 5 = .ok (.aload_n 0, 1) := by decide +kernel
theorem dX2_mark_6 : decode cX2_mark 6 = .ok (.iload_n 1, 1) := by decide +kernel
theorem dX2_mark_7 : decode cX2_mark 7 = .ok (.invokevirtual 51, 3) := by decide +kernel
theorem dX2_mark_10 : decode cX2_mark 10 = .ok (.ifCond .eq 22, 3) := by decide +kernel
theorem dX2_mark_13 : decode cX2_mark 13 = .ok (.aload_n 0, 1) := by decide +kernel
theorem dX2_mark_14 : decode cX2_mark 14 = .ok (.iload_n 2, 1) := by decide +kernel
theorem dX2_mark_15 : decode cX2_mark 15 = .ok (.invokevirtual 54, 3) := by decide +kernel
theorem dX2_mark_18 : decode cX2_mark 18 = .ok (.ifCond .eq 14, 3) := by decide +kernel
theorem dX2_mark_21 : decode cX2_mark 21 = .ok (.aload_n 0, 1) := by decide +kernel
theorem dX2_mark_22 : decode cX2_mark 22 = .ok (.iconst 1, 1) := by decide +kernel
theorem dX2_mark_23 : decode cX2_mark 23 = .ok (.iload_n 1, 1) := by decide +kernel
theorem dX2_mark_24 : decode cX2_mark 24 = .ok (.iload_n 2, 1) := by decide +kernel
theorem dX2_mark_25 : decode cX2_mark 25 = .ok (.invokestatic 39, 3) := by decide +kernel
theorem dX2_mark_28 : decode cX2_mark 28 = .ok (.dload_n 3, 1) := by decide +kernel
theorem dX2_mark_29 : decode cX2_mark 29 = .ok (.invokevirtual 57, 3) := by decide +kernel
theorem dX2_mark_32 : decode cX2_mark 32 = .ok (.return_, 1) := by decide +kernel
set_option maxRecDepth 20000 in
theorem ggX2_points_X2_hasEntry : GoodIn wsX2_points wsX2_hasEntry := goodIn_r _ [6, 7, 8, 9, 5, 10, 11, 12, 13, 14, 1, 28, 29, 30, 31, 32, 33] (by decide +kernel) (by decide +kernel)
set_option maxRecDepth 20000 in
theorem gX2_points_X2_hasEntry : GoodIn wsX2_points (wsV RX2 51 RX2 yX2_hasEntry wsX2_hasEntry) := goodIn_app (goodIn_of _ (by decide +kernel)) ggX2_points_X2_hasEntry
set_option maxRecDepth 20000 in
theorem ggX2_points_X2_hasSeat : GoodIn wsX2_points wsX2_hasSeat := goodIn_r _ [18, 8, 9, 5, 10, 11, 12, 13, 14, 1, 28, 29, 30, 31, 32, 33] (by decide +kernel) (by decide +kernel)
set_option maxRecDepth 20000 in
theorem gX2_points_X2_hasSeat : GoodIn wsX2_points (wsV RX2 54 RX2 yX2_hasSeat wsX2_hasSeat) := goodIn_app (goodIn_of _ (by decide +kernel)) ggX2_points_X2_hasSeat
set_option maxRecDepth 20000 in
theorem ggX2_points_X2_cell : GoodIn wsX2_points wsX2_cell := goodIn_r _ [21] (by decide +kernel) (by decide +kernel)
set_option maxRecDepth 20000 in
theorem gX2_points_X2_cell : GoodIn wsX2_points (va_wsS RX2 39 yX2_cell wsX2_cell) := goodIn_app (goodIn_of _ (by decide +kernel)) ggX2_points_X2_cell
set_option maxRecDepth 20000 in
theorem ggX2_points_X2_become : GoodIn wsX2_points wsX2_become := goodIn_r _ [25, 26, 27, 28, 29, 30, 31, 32, 33] (by decide +kernel) (by decide +kernel)
set_option maxRecDepth 20000 in
theorem gX2_points_X2_become : GoodIn wsX2_points (wsV RX2 57 RX2 yX2_become wsX2_become) := goodIn_app (goodIn_of _ (by decide +kernel)) ggX2_points_X2_become
theorem dX2_points_0 : decode cX2_points 0 = .ok (.aload_n 0, 1) := by decide +kernel
theorem dX2_points_1 : decode cX2_points 1 = .ok (.iconst 0, 1) := by decide +kernel
theorem dX2_points_2 : decode cX2_points 2 = .ok (.putfield 24, 3) := by decide +kernel
theorem dX2_points_5 : decode cX2_points 5 = .ok (.aload_n 0, 1) := by decide +kernel
theorem dX2_points_6 : decode cX2_points 6 = .ok (.iload_n 1, 1) := by decide +kernel
theorem dX2_points_7 : decode cX2_points 7 = .ok (.invokevirtual 51, 3) := by decide +kernel
theorem dX2_points_10 : decode cX2_points 10 = .ok (.ifCond .eq 23, 3) := by decide +kernel
theorem dX2_points_13 : decode cX2_points 13 = .ok (.aload_n 0, 1) := by decide +kernel
theorem dX2_points_14 : decode cX2_points 14 = .ok (.iload_n 2, 1) := by decide +kernel
theorem dX2_points_15 : decode cX2_points 15 = .ok (.invokevirtual 54, 3) := by decide +kernel
theorem dX2_points_18 : decode cX2_points 18 = .ok (.ifCond .eq 15, 3) := by decide +kernel
theorem dX2_points_21 : decode cX2_points 21 = .ok (.aload_n 0, 1) := by decide +kernel
theorem dX2_points_22 : decode cX2_points 22 = .ok (.iconst 0, 1) := by decide +kernel
theorem dX2_points_23 : decode cX2_points 23 = .ok (.iload_n 1, 1) := by decide +kernel
theorem dX2_points_24 : decode cX2_points 24 = .ok (.iload_n 2, 1) := by decide +kernel
theorem dX2_points_25 : decode cX2_points 25 = .ok (.invokestatic 39, 3) := by decide +kernel
theorem dX2_points_28 : decode cX2_points 28 = .ok (.fload_n 3, 1) := by decide +kernel
theorem dX2_points_29 : decode cX2_points 29 = .ok (.f2d, 1) := by decide +kernel
theorem dX2_points_30 : decode cX2_points 30 = .ok (.invokevirtual 57, 3) := by decide +kernel
theorem dX2_points_33 : decode cX2_points 33 = .ok (.return_, 1) := by decide +kernel
set_option maxRecDepth 20000 in
theorem ggX2_bar_X2_hasSeat : GoodIn wsX2_bar wsX2_hasSeat := goodIn_r _ [6, 7, 8, 5, 9, 10, 11, 12, 13, 1, 23, 24, 25, 26, 27, 28] (by decide +kernel) (by decide +kernel)
set_option maxRecDepth 20000 in
theorem gX2_bar_X2_hasSeat : GoodIn wsX2_bar (wsV RX2 54 RX2 yX2_hasSeat wsX2_hasSeat) := goodIn_app (goodIn_of _ (by decide +kernel)) ggX2_bar_X2_hasSeat
set_option maxRecDepth 20000 in
theorem ggX2_bar_X2_limit : GoodIn wsX2_bar wsX2_limit := goodIn_r _ [16] (by decide +kernel) (by decide +kernel)
set_option maxRecDepth 20000 in
theorem gX2_bar_X2_limit : GoodIn wsX2_bar (va_wsS RX2 43 yX2_limit wsX2_limit) := goodIn_app (goodIn_of _ (by decide +kernel)) ggX2_bar_X2_limit
set_option maxRecDepth 20000 in
theorem ggX2_bar_X2_become : GoodIn wsX2_bar wsX2_become := goodIn_r _ [20, 21, 22, 23, 24, 25, 26, 27, 28] (by decide +kernel) (by decide +kernel)
set_option maxRecDepth 20000 in
theorem gX2_bar_X2_become : GoodIn wsX2_bar (wsV RX2 57 RX2 yX2_become wsX2_become) := goodIn_app (goodIn_of _ (by decide +kernel)) ggX2_bar_X2_become
theorem dX2_bar_0 : decode cX2_bar 0 = .ok (.aload_n 0, 1) := by decide +kernel
theorem dX2_bar_1 : decode cX2_bar 1 = .ok (.iconst 0, 1) := by decide +kernel
theorem dX2_bar_2 : decode cX2_bar 2 = .ok (.putfield 24, 3) := by decide +kernel
theorem dX2_bar_5 : decode cX2_bar 5 = .ok (.aload_n 0, 1) := by decide +kernel
theorem dX2_bar_6 : decode cX2_bar 6 = .ok (.iload_n 1, 1) := by decide +kernel
theorem dX2_bar_7 : decode cX2_bar 7 = .ok (.invokevirtual 54, 3) := by decide +kernel
theorem dX2_bar_10 : decode cX2_bar 10 = .ok (.ifCond .eq 13, 3) := by decide +kernel
theorem dX2_bar_13 : decode cX2_bar 13 = .ok (.aload_n 0, 1) := by decide +kernel
theorem dX2_bar_14 : decode cX2_bar 14 = .ok (.iconst 1, 1) := by decide +kernel
theorem dX2_bar_15 : decode cX2_bar 15 = .ok (.iload_n 1, 1) := by decide +kernel
theorem dX2_bar_16 : decode cX2_bar 16 = .ok (.invokestatic 43, 3) := by decide +kernel
theorem dX2_bar_19 : decode cX2_bar 19 = .ok (.dload_n 2, 1) := by decide +kernel
theorem dX2_bar_20 : decode cX2_bar 20 = .ok (.invokevirtual 57, 3) := by decide +kernel
theorem dX2_bar_23 : decode cX2_bar 23 = .ok (.return_, 1) := by decide +kernel
set_option maxRecDepth 20000 in
theorem ggX2_line_X2_hasSeat : GoodIn wsX2_line wsX2_hasSeat := goodIn_r _ [6, 7, 8, 5, 9, 10, 11, 12, 13, 1, 23, 24, 25, 26, 27, 28] (by decide +kernel) (by decide +kernel)
set_option maxRecDepth 20000 in
theorem gX2_line_X2_hasSeat : GoodIn wsX2_line (wsV RX2 54 RX2 yX2_hasSeat wsX2_hasSeat) := goodIn_app (goodIn_of _ (by decide +kernel)) ggX2_line_X2_hasSeat
set_option maxRecDepth 20000 in
theorem ggX2_line_X2_limit : GoodIn wsX2_line wsX2_limit := goodIn_r _ [16] (by decide +kernel) (by decide +kernel)
set_option maxRecDepth 20000 in
theorem gX2_line_X2_limit : GoodIn wsX2_line (va_wsS RX2 43 yX2_limit wsX2_limit) := goodIn_app (goodIn_of _ (by decide +kernel)) ggX2_line_X2_limit
set_option maxRecDepth 20000 in
theorem ggX2_line_X2_become : GoodIn wsX2_line wsX2_become := goodIn_r _ [20, 21, 22, 23, 24, 25, 26, 27, 28] (by decide +kernel) (by decide +kernel)
set_option maxRecDepth 20000 in
theorem gX2_line_X2_become : GoodIn wsX2_line (wsV RX2 57 RX2 yX2_become wsX2_become) := goodIn_app (goodIn_of _ (by decide +kernel)) ggX2_line_X2_become
theorem dX2_line_0 : decode cX2_line 0 = .ok (.aload_n 0, 1) := by decide +kernel
theorem dX2_line_1 : decode cX2_line 1 = .ok (.iconst 0, 1) := by decide +kernel
theorem dX2_line_2 : decode cX2_line 2 = .ok (.putfield 24, 3) := by decide +kernel
theorem dX2_line_5 : decode cX2_line 5 = .ok (.aload_n 0, 1) := by decide +kernel
theorem dX2_line_6 : decode cX2_line 6 = .ok (.iload_n 1, 1) := by decide +kernel
theorem dX2_line_7 : decode cX2_line 7 = .ok (.invokevirtual 54, 3) := by decide +kernel
theorem dX2_line_10 : decode cX2_line 10 = .ok (.ifCond .eq 14, 3) := by decide +kernel
theorem dX2_line_13 : decode cX2_line 13 = .ok (.aload_n 0, 1) := by decide +kernel
theorem dX2_line_14 : decode cX2_line 14 = .ok (.iconst 0, 1) := by decide +kernel
theorem dX2_line_15 : decode cX2_line 15 = .ok (.iload_n 1, 1) := by decide +kernel
theorem dX2_line_16 : decode cX2_line 16 = .ok (.invokestatic 43, 3) := by decide +kernel
theorem dX2_line_19 : decode cX2_line 19 = .ok (.fload_n 2, 1) := by decide +kernel
theorem dX2_line_20 : decode cX2_line 20 = .ok (.f2d, 1) := by decide +kernel
theorem dX2_line_21 : decode cX2_line 21 = .ok (.invokevirtual 57, 3) := by decide +kernel
theorem dX2_line_24 : decode cX2_line 24 = .ok (.return_, 1) := by decide +kernel
set_option maxRecDepth 20000 in
theorem ggX2_spot_X2_in : GoodIn wsX2_spot wsX2_in := goodIn_r _ [6] (by decide +kernel) (by decide +kernel)
set_option maxRecDepth 20000 in
theorem gX2_spot_X2_in : GoodIn wsX2_spot (va_wsS RX2 31 yX2_in wsX2_in) := goodIn_app (goodIn_of _ (by decide +kernel)) ggX2_spot_X2_in
set_option maxRecDepth 20000 in
theorem ggX2_spot_X2_limit : GoodIn wsX2_spot wsX2_limit := goodIn_r _ [9] (by decide +kernel) (by decide +kernel)
set_option maxRecDepth 20000 in
theorem gX2_spot_X2_limit : GoodIn wsX2_spot (va_wsS RX2 43 yX2_limit wsX2_limit) := goodIn_app (goodIn_of _ (by decide +kernel)) ggX2_spot_X2_limit
set_option maxRecDepth 20000 in
theorem ggX2_spot_X2_cell : GoodIn wsX2_spot wsX2_cell := goodIn_r _ [12] (by decide +kernel) (by decide +kernel)
set_option maxRecDepth 20000 in
theorem gX2_spot_X2_cell : GoodIn wsX2_spot (va_wsS RX2 39 yX2_cell wsX2_cell) := goodIn_app (goodIn_of _ (by decide +kernel)) ggX2_spot_X2_cell
theorem dX2_spot_0 : decode cX2_spot 0 = .ok (.aload_n 0, 1) := by decide +kernel
theorem dX2_spot_1 : decode cX2_spot 1 = .ok (.iload_n 2, 1) := by decide +kernel
theorem dX2_spot_2 : decode cX2_spot 2 = .ok (.iconst (-1), 1) := by decide +kernel
theorem dX2_spot_3 : decode cX2_spot 3 = .ok (.if_icmp .eq 14, 3) := by decide +kernel
theorem dX2_spot_6 : decode cX2_spot 6 = .ok (.iload_n 2, 1) := by decide +kernel
theorem dX2_spot_7 : decode cX2_spot 7 = .ok (.aload_n 0, 1) := by decide +kernel
theorem dX2_spot_8 : decode cX2_spot 8 = .ok (.getfield 28, 3) := by decide +kernel
theorem dX2_spot_11 : decode cX2_spot 11 = .ok (.invokestatic 31, 3) := by decide +kernel
theorem dX2_spot_14 : decode cX2_spot 14 = .ok (.ifCond .eq 11, 3) := by decide +kernel
theorem dX2_spot_17 : decode cX2_spot 17 = .ok (.iload_n 3, 1) := by decide +kernel
theorem dX2_spot_18 : decode cX2_spot 18 = .ok (.iconst 5, 1) := by decide +kernel
theorem dX2_spot_19 : decode cX2_spot 19 = .ok (.invokestatic 31, 3) := by decide +kernel
theorem dX2_spot_22 : decode cX2_spot 22 = .ok (.ifCond .ne 7, 3) := by decide +kernel
theorem dX2_spot_25 : decode cX2_spot 25 = .ok (.iconst 1, 1) := by decide +kernel
theorem dX2_spot_26 : decode cX2_spot 26 = .ok (.goto 4, 3) := by decide +kernel
theorem dX2_spot_29 : decode cX2_spot 29 = .ok (.iconst 0, 1) := by decide +kernel
theorem dX2_spot_30 : decode cX2_spot 30 = .ok (.putfield 24, 3) := by decide +kernel
theorem dX2_spot_33 : decode cX2_spot 33 = .ok (.aload_n 0, 1) := by decide +kernel
theorem dX2_spot_34 : decode cX2_spot 34 = .ok (.getfield 24, 3) := by decide +kernel
theorem dX2_spot_37 : decode cX2_spot 37 = .ok (.ifCond .le 5, 3) := by decide +kernel
theorem dX2_spot_40 : decode cX2_spot 40 = .ok (.iconst (-1), 1) := by decide +kernel
theorem dX2_spot_41 : decode cX2_spot 41 = .ok (.ireturn, 1) := by decide +kernel
theorem dX2_spot_42 : decode cX2_spot 42 = .ok (.iload_n 2, 1) := by decide +kernel
theorem dX2_spot_43 : decode cX2_spot 43 = .ok (.iconst (-1), 1) := by decide +kernel
theorem dX2_spot_44 : decode cX2_spot 44 = .ok (.if_icmp .ne 11, 3) := by decide +kernel
theorem dX2_spot_47 : decode cX2_spot 47 = .ok (.iload_n 1, 1) := by decide +kernel
theorem dX2_spot_48 : decode cX2_spot 48 = .ok (.iload_n 3, 1) := by decide +kernel
theorem dX2_spot_49 : decode cX2_spot 49 = .ok (.invokestatic 43, 3) := by decide +kernel
theorem dX2_spot_52 : decode cX2_spot 52 = .ok (.goto 9, 3) := by decide +kernel
theorem dX2_spot_55 : decode cX2_spot 55 = .ok (.iload_n 1, 1) := by decide +kernel
theorem dX2_spot_56 : decode cX2_spot 56 = .ok (.iload_n 2, 1) := by decide +kernel
theorem dX2_spot_57 : decode cX2_spot 57 = .ok (.iload_n 3, 1) := by decide +kernel
theorem dX2_spot_58 : decode cX2_spot 58 = .ok (.invokestatic 39, 3) := by decide +kernel
theorem dX2_spot_61 : decode cX2_spot 61 = .ok (.ireturn, 1) := by decide +kernel
set_option maxRecDepth 20000 in
theorem ggX2_clear_X2_spot : GoodIn wsX2_clear wsX2_spot := goodIn_r _ [6, 7, 8, 9, 10, 5, 11, 12, 13, 14, 15, 16, 17, 18, 19, 20, 21, 22, 23] (by decide +kernel) (by decide +kernel)
set_option maxRecDepth 20000 in
theorem gX2_clear_X2_spot : GoodIn wsX2_clear (wsV RX2 61 RX2 yX2_spot wsX2_spot) := goodIn_app (goodIn_of _ (by decide +kernel)) ggX2_clear_X2_spot
theorem dX2_clear_0 : decode cX2_clear 0 = .ok (.aload_n 0, 1) := by decide +kernel
theorem dX2_clear_1 : decode cX2_clear 1 = .ok (.iload_n 1, 1) := by decide +kernel
theorem dX2_clear_2 : decode cX2_clear 2 = .ok (.iload_n 2, 1) := by decide +kernel
theorem dX2_clear_3 : decode cX2_clear 3 = .ok (.iload_n 3, 1) := by decide +kernel
theorem dX2_clear_4 : decode cX2_clear 4 = .ok (.invokevirtual 61, 3) := by decide +kernel
theorem dX2_clear_7 : decode cX2_clear 7 = .ok (.istore 4, 2) := by decide +kernel
theorem dX2_clear_9 : decode cX2_clear 9 = .ok (.iload 4, 2) := by decide +kernel
theorem dX2_clear_11 : decode cX2_clear 11 = .ok (.iconst (-1), 1) := by decide +kernel
theorem dX2_clear_12 : decode cX2_clear 12 = .ok (.if_icmp .ne 5, 3) := by decide +kernel
theorem dX2_clear_15 : decode cX2_clear 15 = .ok (.iconst 0, 1) := by decide +kernel
theorem dX2_clear_16 : decode cX2_clear 16 = .ok (.ireturn, 1) := by decide +kernel
theorem dX2_clear_17 : decode cX2_clear 17 = .ok (.aload_n 0, 1) := by decide +kernel
theorem dX2_clear_18 : decode cX2_clear 18 = .ok (.getfield 13, 3) := by decide +kernel
theorem dX2_clear_21 : decode cX2_clear 21 = .ok (.iload 4, 2) := by decide +kernel
theorem dX2_clear_23 : decode cX2_clear 23 = .ok (.baload, 1) := by decide +kernel
theorem dX2_clear_24 : decode cX2_clear 24 = .ok (.istore 5, 2) := by decide +kernel
theorem dX2_clear_26 : decode cX2_clear 26 = .ok (.aload_n 0, 1) := by decide +kernel
theorem dX2_clear_27 : decode cX2_clear 27 = .ok (.getfield 13, 3) := by decide +kernel
theorem dX2_clear_30 : decode cX2_clear 30 = .ok (.iload 4, 2) := by decide +kernel
theorem dX2_clear_32 : decode cX2_clear 32 = .ok (.iconst 0, 1) := by decide +kernel
theorem dX2_clear_33 : decode cX2_clear 33 = .ok (.bastore, 1) := by decide +kernel
theorem dX2_clear_34 : decode cX2_clear 34 = .ok (.iload 5, 2) := by decide +kernel
theorem dX2_clear_36 : decode cX2_clear 36 = .ok (.ireturn, 1) := by decide +kernel
set_option maxRecDepth 20000 in
theorem ggX2_holds_X2_hasEntry : GoodIn wsX2_holds wsX2_hasEntry := goodIn_r _ [6, 7, 8, 9, 5, 10, 11, 12, 13, 14, 1, 39, 40, 41, 42, 43, 44] (by decide +kernel) (by decide +kernel)
set_option maxRecDepth 20000 in
theorem gX2_holds_X2_hasEntry : GoodIn wsX2_holds (wsV RX2 51 RX2 yX2_hasEntry wsX2_hasEntry) := goodIn_app (goodIn_of _ (by decide +kernel)) ggX2_holds_X2_hasEntry
set_option maxRecDepth 20000 in
theorem ggX2_holds_X2_hasSeat : GoodIn wsX2_holds wsX2_hasSeat := goodIn_r _ [18, 8, 9, 5, 10, 11, 12, 13, 14, 1, 39, 40, 41, 42, 43, 44] (by decide +kernel) (by decide +kernel)
set_option maxRecDepth 20000 in
theorem gX2_holds_X2_hasSeat : GoodIn wsX2_holds (wsV RX2 54 RX2 yX2_hasSeat wsX2_hasSeat) := goodIn_app (goodIn_of _ (by decide +kernel)) ggX2_holds_X2_hasSeat
set_option maxRecDepth 20000 in
theorem ggX2_holds_X2_isWay : GoodIn wsX2_holds wsX2_isWay := goodIn_r _ [22, 8, 9, 5, 10, 11, 12, 13, 14, 1, 39, 40, 41, 42, 43, 44] (by decide +kernel) (by decide +kernel)
set_option maxRecDepth 20000 in
theorem gX2_holds_X2_isWay : GoodIn wsX2_holds (wsV RX2 64 RX2 yX2_isWay wsX2_isWay) := goodIn_app (goodIn_of _ (by decide +kernel)) ggX2_holds_X2_isWay
set_option maxRecDepth 20000 in
theorem ggX2_holds_X2_isSo : GoodIn wsX2_holds wsX2_isSo := goodIn_r _ [26, 27, 28, 5, 29, 30, 31, 32, 33, 34, 35, 36, 37, 38, 39, 40, 41, 42, 43, 44] (by decide +kernel) (by decide +kernel)
set_option maxRecDepth 20000 in
theorem gX2_holds_X2_isSo : GoodIn wsX2_holds (wsV RX2 67 RX2 yX2_isSo wsX2_isSo) := goodIn_app (goodIn_of _ (by decide +kernel)) ggX2_holds_X2_isSo
theorem dX2_holds_0 : decode cX2_holds 0 = .ok (.aload_n 0, 1) := by decide +kernel
theorem dX2_holds_1 : decode cX2_holds 1 = .ok (.iconst 0, 1) := by decide +kernel
theorem dX2_holds_2 : decode cX2_holds 2 = .ok (.putfield 24, 3) := by decide +kernel
theorem dX2_holds_5 : decode cX2_holds 5 = .ok (.aload_n 0, 1) := by decide +kernel
theorem dX2_holds_6 : decode cX2_holds 6 = .ok (.iload_n 2, 1) := by decide +kernel
theorem dX2_holds_7 : decode cX2_holds 7 = .ok (.invokevirtual 51, 3) := by decide +kernel
theorem dX2_holds_10 : decode cX2_holds 10 = .ok (.ifCond .eq 36, 3) := by decide +kernel
theorem dX2_holds_13 : decode cX2_holds 13 = .ok (.aload_n 0, 1) := by decide +kernel
theorem dX2_holds_14 : decode cX2_holds 14 = .ok (.iload_n 3, 1) := by decide +kernel
theorem dX2_holds_15 : decode cX2_holds 15 = .ok (.invokevirtual 54, 3) := by decide +kernel
theorem dX2_holds_18 : decode cX2_holds 18 = .ok (.ifCond .eq 28, 3) := by decide +kernel
theorem dX2_holds_21 : decode cX2_holds 21 = .ok (.aload_n 0, 1) := by decide +kernel
theorem dX2_holds_22 : decode cX2_holds 22 = .ok (.iload 4, 2) := by decide +kernel
theorem dX2_holds_24 : decode cX2_holds 24 = .ok (.invokevirtual 64, 3) := by decide +kernel
theorem dX2_holds_27 : decode cX2_holds 27 = .ok (.ifCond .eq 19, 3) := by decide +kernel
theorem dX2_holds_30 : decode cX2_holds 30 = .ok (.aload_n 0, 1) := by decide +kernel
theorem dX2_holds_31 : decode cX2_holds 31 = .ok (.iload_n 1, 1) := by decide +kernel
theorem dX2_holds_32 : decode cX2_holds 32 = .ok (.iload_n 2, 1) := by decide +kernel
theorem dX2_holds_33 : decode cX2_holds 33 = .ok (.iload_n 3, 1) := by decide +kernel
theorem dX2_holds_34 : decode cX2_holds 34 = .ok (.iload 4, 2) := by decide +kernel
theorem dX2_holds_36 : decode cX2_holds 36 = .ok (.invokevirtual 67, 3) := by decide +kernel
theorem dX2_holds_39 : decode cX2_holds 39 = .ok (.ifCond .eq 7, 3) := by decide +kernel
theorem dX2_holds_42 : decode cX2_holds 42 = .ok (.iconst 1, 1) := by decide +kernel
theorem dX2_holds_43 : decode cX2_holds 43 = .ok (.goto 4, 3) := by decide +kernel
theorem dX2_holds_46 : decode cX2_holds 46 = .ok (.iconst 0, 1) := by decide +kernel
theorem dX2_holds_47 : decode cX2_holds 47 = .ok (.ireturn, 1) := by decide +kernel
set_option maxRecDepth 20000 in
theorem ggX2_tally_X2_hasEntry : GoodIn wsX2_tally wsX2_hasEntry := goodIn_r _ [6, 7, 8, 9, 5, 10, 11, 12, 13, 14, 1, 35, 36, 37, 38, 39, 40] (by decide +kernel) (by decide +kernel)
set_option maxRecDepth 20000 in
theorem gX2_tally_X2_hasEntry : GoodIn wsX2_tally (wsV RX2 51 RX2 yX2_hasEntry wsX2_hasEntry) := goodIn_app (goodIn_of _ (by decide +kernel)) ggX2_tally_X2_hasEntry
set_option maxRecDepth 20000 in
theorem ggX2_tally_X2_isWay : GoodIn wsX2_tally wsX2_isWay := goodIn_r _ [18, 8, 9, 5, 10, 11, 12, 13, 14, 1, 35, 36, 37, 38, 39, 40] (by decide +kernel) (by decide +kernel)
set_option maxRecDepth 20000 in
theorem gX2_tally_X2_isWay : GoodIn wsX2_tally (wsV RX2 64 RX2 yX2_isWay wsX2_isWay) := goodIn_app (goodIn_of _ (by decide +kernel)) ggX2_tally_X2_isWay
set_option maxRecDepth 20000 in
theorem ggX2_tally_X2_isSo : GoodIn wsX2_tally wsX2_isSo := goodIn_r _ [22, 23, 24, 5, 25, 26, 27, 28, 29, 30, 31, 32, 33, 34, 35, 36, 37, 38, 39, 40] (by decide +kernel) (by decide +kernel)
set_option maxRecDepth 20000 in
theorem gX2_tally_X2_isSo : GoodIn wsX2_tally (wsV RX2 67 RX2 yX2_isSo wsX2_isSo) := goodIn_app (goodIn_of _ (by decide +kernel)) ggX2_tally_X2_isSo
theorem dX2_tally_0 : decode cX2_tally 0 = .ok (.aload_n 0, 1) := by decide +kernel
theorem dX2_tally_1 : decode cX2_tally 1 = .ok (.iconst 0, 1) := by decide +kernel
theorem dX2_tally_2 : decode cX2_tally 2 = .ok (.putfield 24, 3) := by decide +kernel
theorem dX2_tally_5 : decode cX2_tally 5 = .ok (.iconst 0, 1) := by decide +kernel
theorem dX2_tally_6 : decode cX2_tally 6 = .ok (.istore 4, 2) := by decide +kernel
theorem dX2_tally_8 : decode cX2_tally 8 = .ok (.aload_n 0, 1) := by decide +kernel
theorem dX2_tally_9 : decode cX2_tally 9 = .ok (.iload_n 2, 1) := by decide +kernel
theorem dX2_tally_10 : decode cX2_tally 10 = .ok (.invokevirtual 51, 3) := by decide +kernel
theorem dX2_tally_13 : decode cX2_tally 13 = .ok (.ifCond .eq 11, 3) := by decide +kernel
theorem dX2_tally_16 : decode cX2_tally 16 = .ok (.aload_n 0, 1) := by decide +kernel
theorem dX2_tally_17 : decode cX2_tally 17 = .ok (.iload_n 3, 1) := by decide +kernel
theorem dX2_tally_18 : decode cX2_tally 18 = .ok (.invokevirtual 64, 3) := by decide +kernel
theorem dX2_tally_21 : decode cX2_tally 21 = .ok (.ifCond .ne 5, 3) := by decide +kernel
theorem dX2_tally_24 : decode cX2_tally 24 = .ok (.iconst 0, 1) := by decide +kernel
theorem dX2_tally_25 : decode cX2_tally 25 = .ok (.ireturn, 1) := by decide +kernel
theorem dX2_tally_26 : decode cX2_tally 26 = .ok (.iconst 0, 1) := by decide +kernel
theorem dX2_tally_27 : decode cX2_tally 27 = .ok (.istore 5, 2) := by decide +kernel
theorem dX2_tally_29 : decode cX2_tally 29 = .ok (.iload 5, 2) := by decide +kernel
theorem dX2_tally_31 : decode cX2_tally 31 = .ok (.iconst 5, 1) := by decide +kernel
theorem dX2_tally_32 : decode cX2_tally 32 = .ok (.if_icmp .ge 31, 3) := by decide +kernel
theorem dX2_tally_35 : decode cX2_tally 35 = .ok (.iload 4, 2) := by decide +kernel
theorem dX2_tally_37 : decode cX2_tally 37 = .ok (.aload_n 0, 1) := by decide +kernel
theorem dX2_tally_38 : decode cX2_tally 38 = .ok (.iload_n 1, 1) := by decide +kernel
theorem dX2_tally_39 : decode cX2_tally 39 = .ok (.iload_n 2, 1) := by decide +kernel
theorem dX2_tally_40 : decode cX2_tally 40 = .ok (.iload 5, 2) := by decide +kernel
theorem dX2_tally_42 : decode cX2_tally 42 = .ok (.iload_n 3, 1) := by decide +kernel
theorem dX2_tally_43 : decode cX2_tally 43 = .ok (.invokevirtual 67, 3) := by decide +kernel
theorem dX2_tally_46 : decode cX2_tally 46 = .ok (.ifCond .eq 7, 3) := by decide +kernel
theorem dX2_tally_49 : decode cX2_tally 49 = .ok (.iconst 1, 1) := by decide +kernel
theorem dX2_tally_50 : decode cX2_tally 50 = .ok (.goto 4, 3) := by decide +kernel
theorem dX2_tally_53 : decode cX2_tally 53 = .ok (.iconst 0, 1) := by decide +kernel
theorem dX2_tally_54 : decode cX2_tally 54 = .ok (.iadd, 1) := by decide +kernel
theorem dX2_tally_55 : decode cX2_tally 55 = .ok (.istore 4, 2) := by decide +kernel
theorem dX2_tally_57 : decode cX2_tally 57 = .ok (.iinc 5 1, 3) := by decide +kernel
theorem dX2_tally_60 : decode cX2_tally 60 = .ok (.goto (-31), 3) := by decide +kernel
theorem dX2_tally_63 : decode cX2_tally 63 = .ok (.iload 4, 2) := by decide +kernel
theorem dX2_tally_65 : decode cX2_tally 65 = .ok (.ireturn, 1) := by decide +kernel
set_option maxRecDepth 20000 in
theorem ggX2_run_X2_hasEntry : GoodIn wsX2_run wsX2_hasEntry := goodIn_r _ [6, 7, 8, 9, 5, 10, 11, 12, 13, 14, 1, 35, 36, 37, 38, 39, 40] (by decide +kernel) (by decide +kernel)
set_option maxRecDepth 20000 in
theorem gX2_run_X2_hasEntry : GoodIn wsX2_run (wsV RX2 51 RX2 yX2_hasEntry wsX2_hasEntry) := goodIn_app (goodIn_of _ (by decide +kernel)) ggX2_run_X2_hasEntry
set_option maxRecDepth 20000 in
theorem ggX2_run_X2_in : GoodIn wsX2_run wsX2_in := goodIn_r _ [10] (by decide +kernel) (by decide +kernel)
set_option maxRecDepth 20000 in
theorem gX2_run_X2_in : GoodIn wsX2_run (va_wsS RX2 31 yX2_in wsX2_in) := goodIn_app (goodIn_of _ (by decide +kernel)) ggX2_run_X2_in
set_option maxRecDepth 20000 in
theorem ggX2_run_X2_isWay : GoodIn wsX2_run wsX2_isWay := goodIn_r _ [18, 8, 9, 5, 10, 11, 12, 13, 14, 1, 35, 36, 37, 38, 39, 40] (by decide +kernel) (by decide +kernel)
set_option maxRecDepth 20000 in
theorem gX2_run_X2_isWay : GoodIn wsX2_run (wsV RX2 64 RX2 yX2_isWay wsX2_isWay) := goodIn_app (goodIn_of _ (by decide +kernel)) ggX2_run_X2_isWay
set_option maxRecDepth 20000 in
theorem ggX2_run_X2_isSo : GoodIn wsX2_run wsX2_isSo := goodIn_r _ [22, 23, 24, 5, 25, 26, 27, 28, 29, 30, 31, 32, 33, 34, 35, 36, 37, 38, 39, 40] (by decide +kernel) (by decide +kernel)
set_option maxRecDepth 20000 in
theorem gX2_run_X2_isSo : GoodIn wsX2_run (wsV RX2 67 RX2 yX2_isSo wsX2_isSo) := goodIn_app (goodIn_of _ (by decide +kernel)) ggX2_run_X2_isSo
theorem dX2_run_0 : decode cX2_run 0 = .ok (.aload_n 0, 1) := by decide +kernel
theorem dX2_run_1 : decode cX2_run 1 = .ok (.iconst 0, 1) := by decide +kernel
theorem dX2_run_2 : decode cX2_run 2 = .ok (.putfield 24, 3) := by decide +kernel
theorem dX2_run_5 : decode cX2_run 5 = .ok (.aload_n 0, 1) := by decide +kernel
theorem dX2_run_6 : decode cX2_run 6 = .ok (.iload_n 2, 1) := by decide +kernel
theorem dX2_run_7 : decode cX2_run 7 = .ok (.invokevirtual 51, 3) := by decide +kernel
theorem dX2_run_10 : decode cX2_run 10 = .ok (.ifCond .ne 5, 3) := by decide +kernel
theorem dX2_run_13 : decode cX2_run 13 = .ok (.iconst 0, 1) := by decide +kernel
theorem dX2_run_14 : decode cX2_run 14 = .ok (.ireturn, 1) := by decide +kernel
theorem dX2_run_15 : decode cX2_run 15 = .ok (.iload_n 3, 1) := by decide +kernel
theorem dX2_run_16 : decode cX2_run 16 = .ok (.bipush 6, 2) := by decide +kernel
theorem dX2_run_18 : decode cX2_run 18 = .ok (.invokestatic 31, 3) := by decide +kernel
theorem dX2_run_21 : decode cX2_run 21 = .ok (.ifCond .ne 8, 3) := by decide +kernel
theorem dX2_run_24 : decode cX2_run 24 = .ok (.aload_n 0, 1) := by decide +kernel
theorem dX2_run_25 : decode cX2_run 25 = .ok (.iconst 1, 1) := by decide +kernel
theorem dX2_run_26 : decode cX2_run 26 = .ok (.putfield 24, 3) := by decide +kernel
theorem dX2_run_29 : decode cX2_run 29 = .ok (.aload_n 0, 1) := by decide +kernel
theorem dX2_run_30 : decode cX2_run 30 = .ok (.getfield 24, 3) := by decide +kernel
theorem dX2_run_33 : decode cX2_run 33 = .ok (.ifCond .gt 12, 3) := by decide +kernel
theorem dX2_run_36 : decode cX2_run 36 = .ok (.aload_n 0, 1) := by decide +kernel
theorem dX2_run_37 : decode cX2_run 37 = .ok (.iload 4, 2) := by decide +kernel
theorem dX2_run_39 : decode cX2_run 39 = .ok (.invokevirtual 64, 3) := by decide +kernel
theorem dX2_run_42 : decode cX2_run 42 = .ok (.ifCond .ne 5, 3) := by decide +kernel
theorem dX2_run_45 : decode cX2_run 45 = .ok (.iconst 0, 1) := by decide +kernel
theorem dX2_run_46 : decode cX2_run 46 = .ok (.ireturn, 1) := by decide +kernel
theorem dX2_run_47 : decode cX2_run 47 = .ok (.iload_n 3, 1) := by decide +kernel
theorem dX2_run_48 : decode cX2_run 48 = .ok (.istore 5, 2) := by decide +kernel
theorem dX2_run_50 : decode cX2_run 50 = .ok (.iload 5, 2) := by decide +kernel
theorem dX2_run_52 : decode cX2_run 52 = .ok (.iconst 5, 1) := by decide +kernel
theorem dX2_run_53 : decode cX2_run 53 = .ok (.if_icmp .ge 22, 3) := by decide +kernel
theorem dX2_run_56 : decode cX2_run 56 = .ok (.aload_n 0, 1) := by decide +kernel
theorem dX2_run_57 : decode cX2_run 57 = .ok (.iload_n 1, 1) := by decide +kernel
theorem dX2_run_58 : decode cX2_run 58 = .ok (.iload_n 2, 1) := by decide +kernel
theorem dX2_run_59 : decode cX2_run 59 = .ok (.iload 5, 2) := by decide +kernel
theorem dX2_run_61 : decode cX2_run 61 = .ok (.iload 4, 2) := by decide +kernel
theorem dX2_run_63 : decode cX2_run 63 = .ok (.invokevirtual 67, 3) := by decide +kernel
theorem dX2_run_66 : decode cX2_run 66 = .ok (.ifCond .eq 9, 3) := by decide +kernel
theorem dX2_run_69 : decode cX2_run 69 = .ok (.iinc 5 1, 3) := by decide +kernel
theorem dX2_run_72 : decode cX2_run 72 = .ok (.goto (-22), 3) := by decide +kernel
theorem dX2_run_75 : decode cX2_run 75 = .ok (.iload 5, 2) := by decide +kernel
theorem dX2_run_77 : decode cX2_run 77 = .ok (.ireturn, 1) := by decide +kernel
set_option maxRecDepth 20000 in
theorem ggX2_keep_X2_hasEntry : GoodIn wsX2_keep wsX2_hasEntry := goodIn_r _ [7, 8, 9, 10, 6, 11, 12, 13, 14, 15, 1, 40, 41, 42, 43, 44, 45] (by decide +kernel) (by decide +kernel)
set_option maxRecDepth 20000 in
theorem gX2_keep_X2_hasEntry : GoodIn wsX2_keep (wsV RX2 51 RX2 yX2_hasEntry wsX2_hasEntry) := goodIn_app (goodIn_of _ (by decide +kernel)) ggX2_keep_X2_hasEntry
set_option maxRecDepth 20000 in
theorem ggX2_keep_X2_hasSeat : GoodIn wsX2_keep wsX2_hasSeat := goodIn_r _ [19, 9, 10, 6, 11, 12, 13, 14, 15, 1, 40, 41, 42, 43, 44, 45] (by decide +kernel) (by decide +kernel)
set_option maxRecDepth 20000 in
theorem gX2_keep_X2_hasSeat : GoodIn wsX2_keep (wsV RX2 54 RX2 yX2_hasSeat wsX2_hasSeat) := goodIn_app (goodIn_of _ (by decide +kernel)) ggX2_keep_X2_hasSeat
set_option maxRecDepth 20000 in
theorem ggX2_keep_X2_isWay : GoodIn wsX2_keep wsX2_isWay := goodIn_r _ [23, 9, 10, 6, 11, 12, 13, 14, 15, 1, 40, 41, 42, 43, 44, 45] (by decide +kernel) (by decide +kernel)
set_option maxRecDepth 20000 in
theorem gX2_keep_X2_isWay : GoodIn wsX2_keep (wsV RX2 64 RX2 yX2_isWay wsX2_isWay) := goodIn_app (goodIn_of _ (by decide +kernel)) ggX2_keep_X2_isWay
set_option maxRecDepth 20000 in
theorem ggX2_keep_X2_isSo : GoodIn wsX2_keep wsX2_isSo := goodIn_r _ [27, 28, 29, 6, 30, 31, 32, 33, 34, 35, 36, 37, 38, 39, 40, 41, 42, 43, 44, 45] (by decide +kernel) (by decide +kernel)
set_option maxRecDepth 20000 in
theorem gX2_keep_X2_isSo : GoodIn wsX2_keep (wsV RX2 67 RX2 yX2_isSo wsX2_isSo) := goodIn_app (goodIn_of _ (by decide +kernel)) ggX2_keep_X2_isSo
set_option maxRecDepth 20000 in
theorem ggX2_keep_X2_cell : GoodIn wsX2_keep wsX2_cell := goodIn_r _ [30] (by decide +kernel) (by decide +kernel)
set_option maxRecDepth 20000 in
theorem gX2_keep_X2_cell : GoodIn wsX2_keep (va_wsS RX2 39 yX2_cell wsX2_cell) := goodIn_app (goodIn_of _ (by decide +kernel)) ggX2_keep_X2_cell
theorem dX2_keep_0 : decode cX2_keep 0 = .ok (.aload_n 0, 1) := by decide +kernel
theorem dX2_keep_1 : decode cX2_keep 1 = .ok (.iconst 0, 1) := by decide +kernel
theorem dX2_keep_2 : decode cX2_keep 2 = .ok (.putfield 24, 3) := by decide +kernel
theorem dX2_keep_5 : decode cX2_keep 5 = .ok (.aload_n 0, 1) := by decide +kernel
theorem dX2_keep_6 : decode cX2_keep 6 = .ok (.iload_n 2, 1) := by decide +kernel
theorem dX2_keep_7 : decode cX2_keep 7 = .ok (.invokevirtual 51, 3) := by decide +kernel
theorem dX2_keep_10 : decode cX2_keep 10 = .ok (.ifCond .eq 20, 3) := by decide +kernel
theorem dX2_keep_13 : decode cX2_keep 13 = .ok (.aload_n 0, 1) := by decide +kernel
theorem dX2_keep_14 : decode cX2_keep 14 = .ok (.iload_n 3, 1) := by decide +kernel
theorem dX2_keep_15 : decode cX2_keep 15 = .ok (.invokevirtual 54, 3) := by decide +kernel
theorem dX2_keep_18 : decode cX2_keep 18 = .ok (.ifCond .eq 12, 3) := by decide +kernel
theorem dX2_keep_21 : decode cX2_keep 21 = .ok (.aload_n 0, 1) := by decide +kernel
theorem dX2_keep_22 : decode cX2_keep 22 = .ok (.iload 4, 2) := by decide +kernel
theorem dX2_keep_24 : decode cX2_keep 24 = .ok (.invokevirtual 64, 3) := by decide +kernel
theorem dX2_keep_27 : decode cX2_keep 27 = .ok (.ifCond .ne 5, 3) := by decide +kernel
theorem dX2_keep_30 : decode cX2_keep 30 = .ok (.iconst 0, 1) := by decide +kernel
theorem dX2_keep_31 : decode cX2_keep 31 = .ok (.ireturn, 1) := by decide +kernel
theorem dX2_keep_32 : decode cX2_keep 32 = .ok (.aload_n 0, 1) := by decide +kernel
theorem dX2_keep_33 : decode cX2_keep 33 = .ok (.iload_n 1, 1) := by decide +kernel
theorem dX2_keep_34 : decode cX2_keep 34 = .ok (.iload_n 2, 1) := by decide +kernel
theorem dX2_keep_35 : decode cX2_keep 35 = .ok (.iload_n 3, 1) := by decide +kernel
theorem dX2_keep_36 : decode cX2_keep 36 = .ok (.iload 4, 2) := by decide +kernel
theorem dX2_keep_38 : decode cX2_keep 38 = .ok (.invokevirtual 67, 3) := by decide +kernel
theorem dX2_keep_41 : decode cX2_keep 41 = .ok (.istore 5, 2) := by decide +kernel
theorem dX2_keep_43 : decode cX2_keep 43 = .ok (.aload_n 0, 1) := by decide +kernel
theorem dX2_keep_44 : decode cX2_keep 44 = .ok (.getfield 17, 3) := by decide +kernel
theorem dX2_keep_47 : decode cX2_keep 47 = .ok (.iload_n 1, 1) := by decide +kernel
theorem dX2_keep_48 : decode cX2_keep 48 = .ok (.iload_n 2, 1) := by decide +kernel
theorem dX2_keep_49 : decode cX2_keep 49 = .ok (.iload_n 3, 1) := by decide +kernel
theorem dX2_keep_50 : decode cX2_keep 50 = .ok (.invokestatic 39, 3) := by decide +kernel
theorem dX2_keep_53 : decode cX2_keep 53 = .ok (.iload 5, 2) := by decide +kernel
theorem dX2_keep_55 : decode cX2_keep 55 = .ok (.ifCond .eq 7, 3) := by decide +kernel
theorem dX2_keep_58 : decode cX2_keep 58 = .ok (.iconst 1, 1) := by decide +kernel
theorem dX2_keep_59 : decode cX2_keep 59 = .ok (.goto 4, 3) := by decide +kernel
theorem dX2_keep_62 : decode cX2_keep 62 = .ok (.iconst 0, 1) := by decide +kernel
theorem dX2_keep_63 : decode cX2_keep 63 = .ok (.iastore, 1) := by decide +kernel
theorem dX2_keep_64 : decode cX2_keep 64 = .ok (.iload 5, 2) := by decide +kernel
theorem dX2_keep_66 : decode cX2_keep 66 = .ok (.ireturn, 1) := by decide +kernel
set_option maxRecDepth 20000 in
theorem ggX2_kept_X2_hasEntry : GoodIn wsX2_kept wsX2_hasEntry := goodIn_r _ [7, 8, 9, 10, 6, 11, 12, 13, 14, 15, 1, 23, 24, 25, 26, 27, 28] (by decide +kernel) (by decide +kernel)
set_option maxRecDepth 20000 in
theorem gX2_kept_X2_hasEntry : GoodIn wsX2_kept (wsV RX2 51 RX2 yX2_hasEntry wsX2_hasEntry) := goodIn_app (goodIn_of _ (by decide +kernel)) ggX2_kept_X2_hasEntry
set_option maxRecDepth 20000 in
theorem ggX2_kept_X2_hasSeat : GoodIn wsX2_kept wsX2_hasSeat := goodIn_r _ [19, 9, 10, 6, 11, 12, 13, 14, 15, 1, 23, 24, 25, 26, 27, 28] (by decide +kernel) (by decide +kernel)
set_option maxRecDepth 20000 in
theorem gX2_kept_X2_hasSeat : GoodIn wsX2_kept (wsV RX2 54 RX2 yX2_hasSeat wsX2_hasSeat) := goodIn_app (goodIn_of _ (by decide +kernel)) ggX2_kept_X2_hasSeat
set_option maxRecDepth 20000 in
theorem ggX2_kept_X2_cell : GoodIn wsX2_kept wsX2_cell := goodIn_r _ [22] (by decide +kernel) (by decide +kernel)
set_option maxRecDepth 20000 in
theorem gX2_kept_X2_cell : GoodIn wsX2_kept (va_wsS RX2 39 yX2_cell wsX2_cell) := goodIn_app (goodIn_of _ (by decide +kernel)) ggX2_kept_X2_cell
theorem dX2_kept_0 : decode cX2_kept 0 = .ok (.aload_n 0, 1) := by decide +kernel
theorem dX2_kept_1 : decode cX2_kept 1 = .ok (.iconst 0, 1) := by decide +kernel
theorem dX2_kept_2 : decode cX2_kept 2 = .ok (.putfield 24, 3) := by decide +kernel
theorem dX2_kept_5 : decode cX2_kept 5 = .ok (.aload_n 0, 1) := by decide +kernel
theorem dX2_kept_6 : decode cX2_kept 6 = .ok (.iload_n 2, 1) := by decide +kernel
theorem dX2_kept_7 : decode cX2_kept 7 = .ok (.invokevirtual 51, 3) := by decide +kernel
theorem dX2_kept_10 : decode cX2_kept 10 = .ok (.ifCond .eq 25, 3) := by decide +kernel
theorem dX2_kept_13 : decode cX2_kept 13 = .ok (.aload_n 0, 1) := by decide +kernel
theorem dX2_kept_14 : decode cX2_kept 14 = .ok (.iload_n 3, 1) := by decide +kernel
theorem dX2_kept_15 : decode cX2_kept 15 = .ok (.invokevirtual 54, 3) := by decide +kernel
theorem dX2_kept_18 : decode cX2_kept 18 = .ok (.ifCond .eq 17, 3) := by decide +kernel
theorem dX2_kept_21 : decode cX2_kept 21 = .ok (.aload_n 0, 1) := by decide +kernel
theorem dX2_kept_22 : decode cX2_kept 22 = .ok (.getfield 17, 3) := by decide +kernel
theorem dX2_kept_25 : decode cX2_kept 25 = .ok (.iload_n 1, 1) := by decide +kernel
theorem dX2_kept_26 : decode cX2_kept 26 = .ok (.iload_n 2, 1) := by decide +kernel
theorem dX2_kept_27 : decode cX2_kept 27 = .ok (.iload_n 3, 1) := by decide +kernel
theorem dX2_kept_28 : decode cX2_kept 28 = .ok (.invokestatic 39, 3) := by decide +kernel
theorem dX2_kept_31 : decode cX2_kept 31 = .ok (.iaload, 1) := by decide +kernel
theorem dX2_kept_32 : decode cX2_kept 32 = .ok (.goto 4, 3) := by decide +kernel
theorem dX2_kept_35 : decode cX2_kept 35 = .ok (.iconst 0, 1) := by decide +kernel
theorem dX2_kept_36 : decode cX2_kept 36 = .ok (.ireturn, 1) := by decide +kernel
set_option maxRecDepth 20000 in
theorem ggX2_place_X2_hasEntry : GoodIn wsX2_place wsX2_hasEntry := goodIn_r _ [8, 2, 9, 10, 7, 11, 12, 13, 14, 15, 1, 29, 30, 31, 32, 33, 34] (by decide +kernel) (by decide +kernel)
set_option maxRecDepth 20000 in
theorem gX2_place_X2_hasEntry : GoodIn wsX2_place (wsV RX2 51 RX2 yX2_hasEntry wsX2_hasEntry) := goodIn_app (goodIn_of _ (by decide +kernel)) ggX2_place_X2_hasEntry
set_option maxRecDepth 20000 in
theorem ggX2_place_X2_hasSeat : GoodIn wsX2_place wsX2_hasSeat := goodIn_r _ [19, 9, 10, 7, 11, 12, 13, 14, 15, 1, 29, 30, 31, 32, 33, 34] (by decide +kernel) (by decide +kernel)
set_option maxRecDepth 20000 in
theorem gX2_place_X2_hasSeat : GoodIn wsX2_place (wsV RX2 54 RX2 yX2_hasSeat wsX2_hasSeat) := goodIn_app (goodIn_of _ (by decide +kernel)) ggX2_place_X2_hasSeat
set_option maxRecDepth 20000 in
theorem ggX2_place_X2_cell : GoodIn wsX2_place wsX2_cell := goodIn_r _ [22] (by decide +kernel) (by decide +kernel)
set_option maxRecDepth 20000 in
theorem gX2_place_X2_cell : GoodIn wsX2_place (va_wsS RX2 39 yX2_cell wsX2_cell) := goodIn_app (goodIn_of _ (by decide +kernel)) ggX2_place_X2_cell
set_option maxRecDepth 20000 in
theorem ggX2_place_X2_compare : GoodIn wsX2_place wsX2_compare := goodIn_r _ [26, 27, 28, 29, 30, 31, 32, 33, 34] (by decide +kernel) (by decide +kernel)
set_option maxRecDepth 20000 in
theorem gX2_place_X2_compare : GoodIn wsX2_place (wsV RX2 47 RX2 yX2_compare wsX2_compare) := goodIn_app (goodIn_of _ (by decide +kernel)) ggX2_place_X2_compare
theorem dX2_place_0 : decode cX2_place 0 = .ok (.aload_n 0, 1) := by decide +kernel
theorem dX2_place_1 : decode cX2_place 1 = .ok (.iconst 0, 1) := by decide +kernel
theorem dX2_place_2 : decode cX2_place 2 = .ok (.putfield 24, 3) := by decide +kernel
theorem dX2_place_5 : decode cX2_place 5 = .ok (.aload_n 0, 1) := by decide +kernel
theorem dX2_place_6 : decode cX2_place 6 = .ok (.iload_n 2, 1) := by decide +kernel
theorem dX2_place_7 : decode cX2_place 7 = .ok (.invokevirtual 51, 3) := by decide +kernel
theorem dX2_place_10 : decode cX2_place 10 = .ok (.ifCond .eq 11, 3) := by decide +kernel
theorem dX2_place_13 : decode cX2_place 13 = .ok (.aload_n 0, 1) := by decide +kernel
theorem dX2_place_14 : decode cX2_place 14 = .ok (.iload_n 3, 1) := by decide +kernel
theorem dX2_place_15 : decode cX2_place 15 = .ok (.invokevirtual 54, 3) := by decide +kernel
theorem dX2_place_18 : decode cX2_place 18 = .ok (.ifCond .ne 5, 3) := by decide +kernel
theorem dX2_place_21 : decode cX2_place 21 = .ok (.iconst 0, 1) := by decide +kernel
theorem dX2_place_22 : decode cX2_place 22 = .ok (.ireturn, 1) := by decide +kernel
theorem dX2_place_23 : decode cX2_place 23 = .ok (.iconst 0, 1) := by decide +kernel
theorem dX2_place_24 : decode cX2_place 24 = .ok (.istore 5, 2) := by decide +kernel
theorem dX2_place_26 : decode cX2_place 26 = .ok (.iload 5, 2) := by decide +kernel
theorem dX2_place_28 : decode cX2_place 28 = .ok (.aload_n 0, 1) := by decide +kernel
theorem dX2_place_29 : decode cX2_place 29 = .ok (.getfield 28, 3) := by decide +kernel
theorem dX2_place_32 : decode cX2_place 32 = .ok (.if_icmp .ge 120, 3) := by decide +kernel
theorem dX2_place_35 : decode cX2_place 35 = .ok (.iload 5, 2) := by decide +kernel
theorem dX2_place_37 : decode cX2_place 37 = .ok (.istore 6, 2) := by decide +kernel
theorem dX2_place_39 : decode cX2_place 39 = .ok (.iconst 1, 1) := by decide +kernel
theorem dX2_place_40 : decode cX2_place 40 = .ok (.istore 7, 2) := by decide +kernel
theorem dX2_place_42 : decode cX2_place 42 = .ok (.iload 6, 2) := by decide +kernel
theorem dX2_place_44 : decode cX2_place 44 = .ok (.ifCond .le 93, 3) := by decide +kernel
theorem dX2_place_47 : decode cX2_place 47 = .ok (.iload 7, 2) := by decide +kernel
theorem dX2_place_49 : decode cX2_place 49 = .ok (.ifCond .eq 88, 3) := by decide +kernel
theorem dX2_place_52 : decode cX2_place 52 = .ok (.aload_n 0, 1) := by decide +kernel
theorem dX2_place_53 : decode cX2_place 53 = .ok (.iload_n 1, 1) := by decide +kernel
theorem dX2_place_54 : decode cX2_place 54 = .ok (.aload_n 0, 1) := by decide +kernel
theorem dX2_place_55 : decode cX2_place 55 = .ok (.getfield 21, 3) := by decide +kernel
theorem dX2_place_58 : decode cX2_place 58 = .ok (.iload 6, 2) := by decide +kernel
theorem dX2_place_60 : decode cX2_place 60 = .ok (.iconst 1, 1) := by decide +kernel
theorem dX2_place_61 : decode cX2_place 61 = .ok (.isub, 1) := by decide +kernel
theorem dX2_place_62 : decode cX2_place 62 = .ok (.iaload, 1) := by decide +kernel
theorem dX2_place_63 : decode cX2_place 63 = .ok (.iload_n 3, 1) := by decide +kernel
theorem dX2_place_64 : decode cX2_place 64 = .ok (.invokestatic 39, 3) := by decide +kernel
theorem dX2_place_67 : decode cX2_place 67 = .ok (.iload_n 1, 1) := by decide +kernel
theorem dX2_place_68 : decode cX2_place 68 = .ok (.iload 5, 2) := by decide +kernel
theorem dX2_place_70 : decode cX2_place 70 = .ok (.iload_n 3, 1) := by decide +kernel
theorem dX2_place_71 : decode cX2_place 71 = .ok (.invokestatic 39, 3) := by decide +kernel
theorem dX2_place_74 : decode cX2_place 74 = .ok (.invokevirtual 47, 3) := by decide +kernel
theorem dX2_place_77 : decode cX2_place 77 = .ok (.istore 8, 2) := by decide +kernel
theorem dX2_place_79 : decode cX2_place 79 = .ok (.iload 4, 2) := by decide +kernel
theorem dX2_place_81 : decode cX2_place 81 = .ok (.ifCond .eq 16, 3) := by decide +kernel
theorem dX2_place_84 : decode cX2_place 84 = .ok (.iload 8, 2) := by decide +kernel
theorem dX2_place_86 : decode cX2_place 86 = .ok (.ifCond .ne 7, 3) := by decide +kernel
theorem dX2_place_89 : decode cX2_place 89 = .ok (.iconst 1, 1) := by decide +kernel
theorem dX2_place_90 : decode cX2_place 90 = .ok (.goto 18, 3) := by decide +kernel
theorem dX2_place_93 : decode cX2_place 93 = .ok (.iconst 0, 1) := by decide +kernel
theorem dX2_place_94 : decode cX2_place 94 = .ok (.goto 14, 3) := by decide +kernel
theorem dX2_place_97 : decode cX2_place 97 = .ok (.iload 8, 2) := by decide +kernel
theorem dX2_place_99 : decode cX2_place 99 = .ok (.iconst 2, 1) := by decide +kernel
theorem dX2_place_100 : decode cX2_place 100 = .ok (.if_icmp .eq 7, 3) := by decide +kernel
theorem dX2_place_103 : decode cX2_place 103 = .ok (.iconst 1, 1) := by decide +kernel
theorem dX2_place_104 : decode cX2_place 104 = .ok (.goto 4, 3) := by decide +kernel
theorem dX2_place_107 : decode cX2_place 107 = .ok (.iconst 0, 1) := by decide +kernel
theorem dX2_place_108 : decode cX2_place 108 = .ok (.istore 7, 2) := by decide +kernel
theorem dX2_place_110 : decode cX2_place 110 = .ok (.iload 7, 2) := by decide +kernel
theorem dX2_place_112 : decode cX2_place 112 = .ok (.ifCond .eq 22, 3) := by decide +kernel
theorem dX2_place_115 : decode cX2_place 115 = .ok (.aload_n 0, 1) := by decide +kernel
theorem dX2_place_116 : decode cX2_place 116 = .ok (.getfield 21, 3) := by decide +kernel
theorem dX2_place_119 : decode cX2_place 119 = .ok (.iload 6, 2) := by decide +kernel
theorem dX2_place_121 : decode cX2_place 121 = .ok (.aload_n 0, 1) := by decide +kernel
theorem dX2_place_122 : decode cX2_place 122 = .ok (.getfield 21, 3) := by decide +kernel
theorem dX2_place_125 : decode cX2_place 125 = .ok (.iload 6, 2) := by decide +kernel
theorem dX2_place_127 : decode cX2_place 127 = .ok (.iconst 1, 1) := by decide +kernel
theorem dX2_place_128 : decode cX2_place 128 = .ok (.isub, 1) := by decide +kernel
theorem dX2_place_129 : decode cX2_place 129 = .ok (.iaload, 1) := by decide +kernel
theorem dX2_place_130 : decode cX2_place 130 = .ok (.iastore, 1) := by decide +kernel
theorem dX2_place_131 : decode cX2_place 131 = .ok (.iinc 6 (-1), 3) := by decide +kernel
theorem dX2_place_134 : decode cX2_place 134 = .ok (.goto (-92), 3) := by decide +kernel
theorem dX2_place_137 : decode cX2_place 137 = .ok (.aload_n 0, 1) := by decide +kernel
theorem dX2_place_138 : decode cX2_place 138 = .ok (.getfield 21, 3) := by decide +kernel
theorem dX2_place_141 : decode cX2_place 141 = .ok (.iload 6, 2) := by decide +kernel
theorem dX2_place_143 : decode cX2_place 143 = .ok (.iload 5, 2) := by decide +kernel
theorem dX2_place_145 : decode cX2_place 145 = .ok (.iastore, 1) := by decide +kernel
theorem dX2_place_146 : decode cX2_place 146 = .ok (.iinc 5 1, 3) := by decide +kernel
theorem dX2_place_149 : decode cX2_place 149 = .ok (.goto (-123), 3) := by decide +kernel
theorem dX2_place_152 : decode cX2_place 152 = .ok (.iconst 0, 1) := by decide +kernel
theorem dX2_place_153 : decode cX2_place 153 = .ok (.istore 5, 2) := by decide +kernel
theorem dX2_place_155 : decode cX2_place 155 = .ok (.aload_n 0, 1) := by decide +kernel
theorem dX2_place_156 : decode cX2_place 156 = .ok (.getfield 21, 3) := by decide +kernel
theorem dX2_place_159 : decode cX2_place 159 = .ok (.iload 5, 2) := by decide +kernel
theorem dX2_place_161 : decode cX2_place 161 = .ok (.iaload, 1) := by decide +kernel
theorem dX2_place_162 : decode cX2_place 162 = .ok (.iload_n 2, 1) := by decide +kernel
theorem dX2_place_163 : decode cX2_place 163 = .ok (.if_icmp .eq 9, 3) := by decide +kernel
theorem dX2_place_166 : decode cX2_place 166 = .ok (.iinc 5 1, 3) := by decide +kernel
theorem dX2_place_169 : decode cX2_place 169 = .ok (.goto (-14), 3) := by decide +kernel
theorem dX2_place_172 : decode cX2_place 172 = .ok (.iload 5, 2) := by decide +kernel
theorem dX2_place_174 : decode cX2_place 174 = .ok (.ireturn, 1) := by decide +kernel
set_option maxRecDepth 20000 in
theorem ggX2_best_X2_hasSeat : GoodIn wsX2_best wsX2_hasSeat := goodIn_r _ [7, 8, 9, 6, 10, 11, 12, 13, 14, 1, 24, 25, 26, 27, 28, 29] (by decide +kernel) (by decide +kernel)
set_option maxRecDepth 20000 in
theorem gX2_best_X2_hasSeat : GoodIn wsX2_best (wsV RX2 54 RX2 yX2_hasSeat wsX2_hasSeat) := goodIn_app (goodIn_of _ (by decide +kernel)) ggX2_best_X2_hasSeat
set_option maxRecDepth 20000 in
theorem ggX2_best_X2_in : GoodIn wsX2_best wsX2_in := goodIn_r _ [10] (by decide +kernel) (by decide +kernel)
set_option maxRecDepth 20000 in
theorem gX2_best_X2_in : GoodIn wsX2_best (va_wsS RX2 31 yX2_in wsX2_in) := goodIn_app (goodIn_of _ (by decide +kernel)) ggX2_best_X2_in
set_option maxRecDepth 20000 in
theorem ggX2_best_X2_cell : GoodIn wsX2_best wsX2_cell := goodIn_r _ [17] (by decide +kernel) (by decide +kernel)
set_option maxRecDepth 20000 in
theorem gX2_best_X2_cell : GoodIn wsX2_best (va_wsS RX2 39 yX2_cell wsX2_cell) := goodIn_app (goodIn_of _ (by decide +kernel)) ggX2_best_X2_cell
set_option maxRecDepth 20000 in
theorem ggX2_best_X2_compare : GoodIn wsX2_best wsX2_compare := goodIn_r _ [21, 22, 23, 24, 25, 26, 27, 28, 29] (by decide +kernel) (by decide +kernel)
set_option maxRecDepth 20000 in
theorem gX2_best_X2_compare : GoodIn wsX2_best (wsV RX2 47 RX2 yX2_compare wsX2_compare) := goodIn_app (goodIn_of _ (by decide +kernel)) ggX2_best_X2_compare
theorem dX2_best_0 : decode cX2_best 0 = .ok (.aload_n 0, 1) := by decide +kernel
theorem dX2_best_1 : decode cX2_best 1 = .ok (.iconst 0, 1) := by decide +kernel
theorem dX2_best_2 : decode cX2_best 2 = .ok (.putfield 24, 3) := by decide +kernel
theorem dX2_best_5 : decode cX2_best 5 = .ok (.aload_n 0, 1) := by decide +kernel
theorem dX2_best_6 : decode cX2_best 6 = .ok (.iload_n 2, 1) := by decide +kernel
theorem dX2_best_7 : decode cX2_best 7 = .ok (.invokevirtual 54, 3) := by decide +kernel
theorem dX2_best_10 : decode cX2_best 10 = .ok (.ifCond .ne 5, 3) := by decide +kernel
theorem dX2_best_13 : decode cX2_best 13 = .ok (.iconst 0, 1) := by decide +kernel
theorem dX2_best_14 : decode cX2_best 14 = .ok (.ireturn, 1) := by decide +kernel
theorem dX2_best_15 : decode cX2_best 15 = .ok (.iload_n 3, 1) := by decide +kernel
theorem dX2_best_16 : decode cX2_best 16 = .ok (.iconst 4, 1) := by decide +kernel
theorem dX2_best_17 : decode cX2_best 17 = .ok (.invokestatic 31, 3) := by decide +kernel
theorem dX2_best_20 : decode cX2_best 20 = .ok (.ifCond .ne 8, 3) := by decide +kernel
theorem dX2_best_23 : decode cX2_best 23 = .ok (.aload_n 0, 1) := by decide +kernel
theorem dX2_best_24 : decode cX2_best 24 = .ok (.iconst 2, 1) := by decide +kernel
theorem dX2_best_25 : decode cX2_best 25 = .ok (.putfield 24, 3) := by decide +kernel
theorem dX2_best_28 : decode cX2_best 28 = .ok (.aload_n 0, 1) := by decide +kernel
theorem dX2_best_29 : decode cX2_best 29 = .ok (.getfield 24, 3) := by decide +kernel
theorem dX2_best_32 : decode cX2_best 32 = .ok (.ifCond .le 5, 3) := by decide +kernel
theorem dX2_best_35 : decode cX2_best 35 = .ok (.iconst 0, 1) := by decide +kernel
theorem dX2_best_36 : decode cX2_best 36 = .ok (.ireturn, 1) := by decide +kernel
theorem dX2_best_37 : decode cX2_best 37 = .ok (.aload_n 0, 1) := by decide +kernel
theorem dX2_best_38 : decode cX2_best 38 = .ok (.getfield 28, 3) := by decide +kernel
theorem dX2_best_41 : decode cX2_best 41 = .ok (.ifCond .ne 7, 3) := by decide +kernel
theorem dX2_best_44 : decode cX2_best 44 = .ok (.iconst (-1), 1) := by decide +kernel
theorem dX2_best_45 : decode cX2_best 45 = .ok (.goto 4, 3) := by decide +kernel
theorem dX2_best_48 : decode cX2_best 48 = .ok (.iconst 0, 1) := by decide +kernel
theorem dX2_best_49 : decode cX2_best 49 = .ok (.istore 4, 2) := by decide +kernel
theorem dX2_best_51 : decode cX2_best 51 = .ok (.iconst 1, 1) := by decide +kernel
theorem dX2_best_52 : decode cX2_best 52 = .ok (.istore 5, 2) := by decide +kernel
theorem dX2_best_54 : decode cX2_best 54 = .ok (.iload 5, 2) := by decide +kernel
theorem dX2_best_56 : decode cX2_best 56 = .ok (.aload_n 0, 1) := by decide +kernel
theorem dX2_best_57 : decode cX2_best 57 = .ok (.getfield 28, 3) := by decide +kernel
theorem dX2_best_60 : decode cX2_best 60 = .ok (.if_icmp .ge 118, 3) := by decide +kernel
theorem dX2_best_63 : decode cX2_best 63 = .ok (.aload_n 0, 1) := by decide +kernel
theorem dX2_best_64 : decode cX2_best 64 = .ok (.iload_n 1, 1) := by decide +kernel
theorem dX2_best_65 : decode cX2_best 65 = .ok (.iload 5, 2) := by decide +kernel
theorem dX2_best_67 : decode cX2_best 67 = .ok (.iload_n 2, 1) := by decide +kernel
theorem dX2_best_68 : decode cX2_best 68 = .ok (.invokestatic 39, 3) := by decide +kernel
theorem dX2_best_71 : decode cX2_best 71 = .ok (.iload_n 1, 1) := by decide +kernel
theorem dX2_best_72 : decode cX2_best 72 = .ok (.iload 4, 2) := by decide +kernel
theorem dX2_best_74 : decode cX2_best 74 = .ok (.iload_n 2, 1) := by decide +kernel
theorem dX2_best_75 : decode cX2_best 75 = .ok (.invokestatic 39, 3) := by decide +kernel
theorem dX2_best_78 : decode cX2_best 78 = .ok (.invokevirtual 47, 3) := by decide +kernel
theorem dX2_best_81 : decode cX2_best 81 = .ok (.istore 6, 2) := by decide +kernel
theorem dX2_best_83 : decode cX2_best 83 = .ok (.iload_n 3, 1) := by decide +kernel
theorem dX2_best_84 : decode cX2_best 84 = .ok (.ifCond .ne 17, 3) := by decide +kernel
theorem dX2_best_87 : decode cX2_best 87 = .ok (.iload 6, 2) := by decide +kernel
theorem dX2_best_89 : decode cX2_best 89 = .ok (.iconst 2, 1) := by decide +kernel
theorem dX2_best_90 : decode cX2_best 90 = .ok (.if_icmp .ne 7, 3) := by decide +kernel
theorem dX2_best_93 : decode cX2_best 93 = .ok (.iconst 1, 1) := by decide +kernel
theorem dX2_best_94 : decode cX2_best 94 = .ok (.goto 67, 3) := by decide +kernel
theorem dX2_best_97 : decode cX2_best 97 = .ok (.iconst 0, 1) := by decide +kernel
theorem dX2_best_98 : decode cX2_best 98 = .ok (.goto 63, 3) := by decide +kernel
theorem dX2_best_101 : decode cX2_best 101 = .ok (.iload_n 3, 1) := by decide +kernel
theorem dX2_best_102 : decode cX2_best 102 = .ok (.iconst 1, 1) := by decide +kernel
theorem dX2_best_103 : decode cX2_best 103 = .ok (.if_icmp .ne 23, 3) := by decide +kernel
theorem dX2_best_106 : decode cX2_best 106 = .ok (.iload 6, 2) := by decide +kernel
theorem dX2_best_108 : decode cX2_best 108 = .ok (.iconst 2, 1) := by decide +kernel
theorem dX2_best_109 : decode cX2_best 109 = .ok (.if_icmp .eq 9, 3) := by decide +kernel
theorem dX2_best_112 : decode cX2_best 112 = .ok (.iload 6, 2) := by decide +kernel
theorem dX2_best_114 : decode cX2_best 114 = .ok (.iconst 3, 1) := by decide +kernel
theorem dX2_best_115 : decode cX2_best 115 = .ok (.if_icmp .ne 7, 3) := by decide +kernel
theorem dX2_best_118 : decode cX2_best 118 = .ok (.iconst 1, 1) := by decide +kernel
theorem dX2_best_119 : decode cX2_best 119 = .ok (.goto 42, 3) := by decide +kernel
theorem dX2_best_122 : decode cX2_best 122 = .ok (.iconst 0, 1) := by decide +kernel
theorem dX2_best_123 : decode cX2_best 123 = .ok (.goto 38, 3) := by decide +kernel
theorem dX2_best_126 : decode cX2_best 126 = .ok (.iload_n 3, 1) := by decide +kernel
theorem dX2_best_127 : decode cX2_best 127 = .ok (.iconst 2, 1) := by decide +kernel
theorem dX2_best_128 : decode cX2_best 128 = .ok (.if_icmp .ne 16, 3) := by decide +kernel
theorem dX2_best_131 : decode cX2_best 131 = .ok (.iload 6, 2) := by decide +kernel
theorem dX2_best_133 : decode cX2_best 133 = .ok (.ifCond .eq 7, 3) := by decide +kernel
theorem dX2_best_136 : decode cX2_best 136 = .ok (.iconst 1, 1) := by decide +kernel
theorem dX2_best_137 : decode cX2_best 137 = .ok (.goto 24, 3) := by decide +kernel
theorem dX2_best_140 : decode cX2_best 140 = .ok (.iconst 0, 1) := by decide +kernel
theorem dX2_best_141 : decode cX2_best 141 = .ok (.goto 20, 3) := by decide +kernel
theorem dX2_best_144 : decode cX2_best 144 = .ok (.iload 6, 2) := by decide +kernel
theorem dX2_best_146 : decode cX2_best 146 = .ok (.iconst 2, 1) := by decide +kernel
theorem dX2_best_147 : decode cX2_best 147 = .ok (.if_icmp .eq 9, 3) := by decide +kernel
theorem dX2_best_150 : decode cX2_best 150 = .ok (.iload 6, 2) := by decide +kernel
theorem dX2_best_152 : decode cX2_best 152 = .ok (.iconst 1, 1) := by decide +kernel
theorem dX2_best_153 : decode cX2_best 153 = .ok (.if_icmp .ne 7, 3) := by decide +kernel
theorem dX2_best_156 : decode cX2_best 156 = .ok (.iconst 1, 1) := by decide +kernel
theorem dX2_best_157 : decode cX2_best 157 = .ok (.goto 4, 3) := by decide +kernel
theorem dX2_best_160 : decode cX2_best 160 = .ok (.iconst 0, 1) := by decide +kernel
theorem dX2_best_161 : decode cX2_best 161 = .ok (.istore 7, 2) := by decide +kernel
theorem dX2_best_163 : decode cX2_best 163 = .ok (.iload 7, 2) := by decide +kernel
theorem dX2_best_165 : decode cX2_best 165 = .ok (.ifCond .eq 7, 3) := by decide +kernel
theorem dX2_best_168 : decode cX2_best 168 = .ok (.iload 5, 2) := by decide +kernel
theorem dX2_best_170 : decode cX2_best 170 = .ok (.istore 4, 2) := by decide +kernel
theorem dX2_best_172 : decode cX2_best 172 = .ok (.iinc 5 1, 3) := by decide +kernel
theorem dX2_best_175 : decode cX2_best 175 = .ok (.goto (-121), 3) := by decide +kernel
theorem dX2_best_178 : decode cX2_best 178 = .ok (.iload 4, 2) := by decide +kernel
theorem dX2_best_180 : decode cX2_best 180 = .ok (.ireturn, 1) := by decide +kernel
set_option maxRecDepth 20000 in
theorem ggX2_against_X2_hasEntry : GoodIn wsX2_against wsX2_hasEntry := goodIn_r _ [6, 7, 8, 9, 5, 10, 11, 12, 13, 14, 1, 24, 25, 26, 27, 28, 29] (by decide +kernel) (by decide +kernel)
set_option maxRecDepth 20000 in
theorem gX2_against_X2_hasEntry : GoodIn wsX2_against (wsV RX2 51 RX2 yX2_hasEntry wsX2_hasEntry) := goodIn_app (goodIn_of _ (by decide +kernel)) ggX2_against_X2_hasEntry
set_option maxRecDepth 20000 in
theorem ggX2_against_X2_in : GoodIn wsX2_against wsX2_in := goodIn_r _ [10] (by decide +kernel) (by decide +kernel)
set_option maxRecDepth 20000 in
theorem gX2_against_X2_in : GoodIn wsX2_against (va_wsS RX2 31 yX2_in wsX2_in) := goodIn_app (goodIn_of _ (by decide +kernel)) ggX2_against_X2_in
set_option maxRecDepth 20000 in
theorem ggX2_against_X2_cell : GoodIn wsX2_against wsX2_cell := goodIn_r _ [17] (by decide +kernel) (by decide +kernel)
set_option maxRecDepth 20000 in
theorem gX2_against_X2_cell : GoodIn wsX2_against (va_wsS RX2 39 yX2_cell wsX2_cell) := goodIn_app (goodIn_of _ (by decide +kernel)) ggX2_against_X2_cell
set_option maxRecDepth 20000 in
theorem ggX2_against_X2_compare : GoodIn wsX2_against wsX2_compare := goodIn_r _ [21, 22, 23, 24, 25, 26, 27, 28, 29] (by decide +kernel) (by decide +kernel)
set_option maxRecDepth 20000 in
theorem gX2_against_X2_compare : GoodIn wsX2_against (wsV RX2 47 RX2 yX2_compare wsX2_compare) := goodIn_app (goodIn_of _ (by decide +kernel)) ggX2_against_X2_compare
theorem dX2_against_0 : decode cX2_against 0 = .ok (.aload_n 0, 1) := by decide +kernel
theorem dX2_against_1 : decode cX2_against 1 = .ok (.iconst 0, 1) := by decide +kernel
theorem dX2_against_2 : decode cX2_against 2 = .ok (.putfield 24, 3) := by decide +kernel
theorem dX2_against_5 : decode cX2_against 5 = .ok (.aload_n 0, 1) := by decide +kernel
theorem dX2_against_6 : decode cX2_against 6 = .ok (.iload_n 2, 1) := by decide +kernel
theorem dX2_against_7 : decode cX2_against 7 = .ok (.invokevirtual 51, 3) := by decide +kernel
theorem dX2_against_10 : decode cX2_against 10 = .ok (.ifCond .eq 11, 3) := by decide +kernel
theorem dX2_against_13 : decode cX2_against 13 = .ok (.aload_n 0, 1) := by decide +kernel
theorem dX2_against_14 : decode cX2_against 14 = .ok (.iload_n 3, 1) := by decide +kernel
theorem dX2_against_15 : decode cX2_against 15 = .ok (.invokevirtual 51, 3) := by decide +kernel
theorem dX2_against_18 : decode cX2_against 18 = .ok (.ifCond .ne 5, 3) := by decide +kernel
theorem dX2_against_21 : decode cX2_against 21 = .ok (.iconst 0, 1) := by decide +kernel
theorem dX2_against_22 : decode cX2_against 22 = .ok (.ireturn, 1) := by decide +kernel
theorem dX2_against_23 : decode cX2_against 23 = .ok (.iload 4, 2) := by decide +kernel
theorem dX2_against_25 : decode cX2_against 25 = .ok (.iconst 5, 1) := by decide +kernel
theorem dX2_against_26 : decode cX2_against 26 = .ok (.invokestatic 31, 3) := by decide +kernel
theorem dX2_against_29 : decode cX2_against 29 = .ok (.ifCond .ne 8, 3) := by decide +kernel
theorem dX2_against_32 : decode cX2_against 32 = .ok (.aload_n 0, 1) := by decide +kernel
theorem dX2_against_33 : decode cX2_against 33 = .ok (.iconst 2, 1) := by decide +kernel
theorem dX2_against_34 : decode cX2_against 34 = .ok (.putfield 24, 3) := by decide +kernel
theorem dX2_against_37 : decode cX2_against 37 = .ok (.iconst 0, 1) := by decide +kernel
theorem dX2_against_38 : decode cX2_against 38 = .ok (.istore 5, 2) := by decide +kernel
theorem dX2_against_40 : decode cX2_against 40 = .ok (.iconst 0, 1) := by decide +kernel
theorem dX2_against_41 : decode cX2_against 41 = .ok (.istore 6, 2) := by decide +kernel
theorem dX2_against_43 : decode cX2_against 43 = .ok (.iload 6, 2) := by decide +kernel
theorem dX2_against_45 : decode cX2_against 45 = .ok (.iconst 5, 1) := by decide +kernel
theorem dX2_against_46 : decode cX2_against 46 = .ok (.if_icmp .ge 148, 3) := by decide +kernel
theorem dX2_against_49 : decode cX2_against 49 = .ok (.aload_n 0, 1) := by decide +kernel
theorem dX2_against_50 : decode cX2_against 50 = .ok (.getfield 24, 3) := by decide +kernel
theorem dX2_against_53 : decode cX2_against 53 = .ok (.ifCond .ne 141, 3) := by decide +kernel
theorem dX2_against_56 : decode cX2_against 56 = .ok (.aload_n 0, 1) := by decide +kernel
theorem dX2_against_57 : decode cX2_against 57 = .ok (.iload_n 1, 1) := by decide +kernel
theorem dX2_against_58 : decode cX2_against 58 = .ok (.iload_n 2, 1) := by decide +kernel
theorem dX2_against_59 : decode cX2_against 59 = .ok (.iload 6, 2) := by decide +kernel
theorem dX2_against_61 : decode cX2_against 61 = .ok (.invokestatic 39, 3) := by decide +kernel
theorem dX2_against_64 : decode cX2_against 64 = .ok (.iload_n 1, 1) := by decide +kernel
theorem dX2_against_65 : decode cX2_against 65 = .ok (.iload_n 3, 1) := by decide +kernel
theorem dX2_against_66 : decode cX2_against 66 = .ok (.iload 6, 2) := by decide +kernel
theorem dX2_against_68 : decode cX2_against 68 = .ok (.invokestatic 39, 3) := by decide +kernel
theorem dX2_against_71 : decode cX2_against 71 = .ok (.invokevirtual 47, 3) := by decide +kernel
theorem dX2_against_74 : decode cX2_against 74 = .ok (.istore 7, 2) := by decide +kernel
theorem dX2_against_76 : decode cX2_against 76 = .ok (.iload 4, 2) := by decide +kernel
theorem dX2_against_78 : decode cX2_against 78 = .ok (.ifCond .ne 17, 3) := by decide +kernel
theorem dX2_against_81 : decode cX2_against 81 = .ok (.iload 7, 2) := by decide +kernel
theorem dX2_against_83 : decode cX2_against 83 = .ok (.iconst 2, 1) := by decide +kernel
theorem dX2_against_84 : decode cX2_against 84 = .ok (.if_icmp .ne 7, 3) := by decide +kernel
theorem dX2_against_87 : decode cX2_against 87 = .ok (.iconst 1, 1) := by decide +kernel
theorem dX2_against_88 : decode cX2_against 88 = .ok (.goto 83, 3) := by decide +kernel
theorem dX2_against_91 : decode cX2_against 91 = .ok (.iconst 0, 1) := by decide +kernel
theorem dX2_against_92 : decode cX2_against 92 = .ok (.goto 79, 3) := by decide +kernel
theorem dX2_against_95 : decode cX2_against 95 = .ok (.iload 4, 2) := by decide +kernel
theorem dX2_against_97 : decode cX2_against 97 = .ok (.iconst 1, 1) := by decide +kernel
theorem dX2_against_98 : decode cX2_against 98 = .ok (.if_icmp .ne 16, 3) := by decide +kernel
theorem dX2_against_101 : decode cX2_against 101 = .ok (.iload 7, 2) := by decide +kernel
theorem dX2_against_103 : decode cX2_against 103 = .ok (.ifCond .ne 7, 3) := by decide +kernel
theorem dX2_against_106 : decode cX2_against 106 = .ok (.iconst 1, 1) := by decide +kernel
theorem dX2_against_107 : decode cX2_against 107 = .ok (.goto 64, 3) := by decide +kernel
theorem dX2_against_110 : decode cX2_against 110 = .ok (.iconst 0, 1) := by decide +kernel
theorem dX2_against_111 : decode cX2_against 111 = .ok (.goto 60, 3) := by decide +kernel
theorem dX2_against_114 : decode cX2_against 114 = .ok (.iload 4, 2) := by decide +kernel
theorem dX2_against_116 : decode cX2_against 116 = .ok (.iconst 2, 1) := by decide +kernel
theorem dX2_against_117 : decode cX2_against 117 = .ok (.if_icmp .ne 17, 3) := by decide +kernel
theorem dX2_against_120 : decode cX2_against 120 = .ok (.iload 7, 2) := by decide +kernel
theorem dX2_against_122 : decode cX2_against 122 = .ok (.iconst 1, 1) := by decide +kernel
theorem dX2_against_123 : decode cX2_against 123 = .ok (.if_icmp .ne 7, 3) := by decide +kernel
theorem dX2_against_126 : decode cX2_against 126 = .ok (.iconst 1, 1) := by decide +kernel
theorem dX2_against_127 : decode cX2_against 127 = .ok (.goto 44, 3) := by decide +kernel
theorem dX2_against_130 : decode cX2_against 130 = .ok (.iconst 0, 1) := by decide +kernel
theorem dX2_against_131 : decode cX2_against 131 = .ok (.goto 40, 3) := by decide +kernel
theorem dX2_against_134 : decode cX2_against 134 = .ok (.iload 4, 2) := by decide +kernel
theorem dX2_against_136 : decode cX2_against 136 = .ok (.iconst 3, 1) := by decide +kernel
theorem dX2_against_137 : decode cX2_against 137 = .ok (.if_icmp .ne 17, 3) := by decide +kernel
theorem dX2_against_140 : decode cX2_against 140 = .ok (.iload 7, 2) := by decide +kernel
theorem dX2_against_142 : decode cX2_against 142 = .ok (.iconst 3, 1) := by decide +kernel
theorem dX2_against_143 : decode cX2_against 143 = .ok (.if_icmp .ne 7, 3) := by decide +kernel
theorem dX2_against_146 : decode cX2_against 146 = .ok (.iconst 1, 1) := by decide +kernel
theorem dX2_against_147 : decode cX2_against 147 = .ok (.goto 24, 3) := by decide +kernel
theorem dX2_against_150 : decode cX2_against 150 = .ok (.iconst 0, 1) := by decide +kernel
theorem dX2_against_151 : decode cX2_against 151 = .ok (.goto 20, 3) := by decide +kernel
theorem dX2_against_154 : decode cX2_against 154 = .ok (.iload 7, 2) := by decide +kernel
theorem dX2_against_156 : decode cX2_against 156 = .ok (.iconst 1, 1) := by decide +kernel
theorem dX2_against_157 : decode cX2_against 157 = .ok (.if_icmp .eq 9, 3) := by decide +kernel
theorem dX2_against_160 : decode cX2_against 160 = .ok (.iload 7, 2) := by decide +kernel
theorem dX2_against_162 : decode cX2_against 162 = .ok (.iconst 3, 1) := by decide +kernel
theorem dX2_against_163 : decode cX2_against 163 = .ok (.if_icmp .ne 7, 3) := by decide +kernel
theorem dX2_against_166 : decode cX2_against 166 = .ok (.iconst 1, 1) := by decide +kernel
theorem dX2_against_167 : decode cX2_against 167 = .ok (.goto 4, 3) := by decide +kernel
theorem dX2_against_170 : decode cX2_against 170 = .ok (.iconst 0, 1) := by decide +kernel
theorem dX2_against_171 : decode cX2_against 171 = .ok (.istore 8, 2) := by decide +kernel
theorem dX2_against_173 : decode cX2_against 173 = .ok (.iload 5, 2) := by decide +kernel
theorem dX2_against_175 : decode cX2_against 175 = .ok (.iload 8, 2) := by decide +kernel
theorem dX2_against_177 : decode cX2_against 177 = .ok (.ifCond .eq 7, 3) := by decide +kernel
theorem dX2_against_180 : decode cX2_against 180 = .ok (.iconst 1, 1) := by decide +kernel
theorem dX2_against_181 : decode cX2_against 181 = .ok (.goto 4, 3) := by decide +kernel
theorem dX2_against_184 : decode cX2_against 184 = .ok (.iconst 0, 1) := by decide +kernel
theorem dX2_against_185 : decode cX2_against 185 = .ok (.iadd, 1) := by decide +kernel
theorem dX2_against_186 : decode cX2_against 186 = .ok (.istore 5, 2) := by decide +kernel
theorem dX2_against_188 : decode cX2_against 188 = .ok (.iinc 6 1, 3) := by decide +kernel
theorem dX2_against_191 : decode cX2_against 191 = .ok (.goto (-148), 3) := by decide +kernel
theorem dX2_against_194 : decode cX2_against 194 = .ok (.iload 5, 2) := by decide +kernel
theorem dX2_against_196 : decode cX2_against 196 = .ok (.ireturn, 1) := by decide +kernel
theorem dX2_eighths_0 : decode cX2_eighths 0 = .ok (.aload_n 0, 1) := by decide +kernel
theorem dX2_eighths_1 : decode cX2_eighths 1 = .ok (.getfield 7, 3) := by decide +kernel
theorem dX2_eighths_4 : decode cX2_eighths 4 = .ok (.iload_n 1, 1) := by decide +kernel
theorem dX2_eighths_5 : decode cX2_eighths 5 = .ok (.daload, 1) := by decide +kernel
theorem dX2_eighths_6 : decode cX2_eighths 6 = .ok (.ldc2_w 71, 3) := by decide +kernel
theorem dX2_eighths_9 : decode cX2_eighths 9 = .ok (.dmul, 1) := by decide +kernel
theorem dX2_eighths_10 : decode cX2_eighths 10 = .ok (.d2l, 1) := by decide +kernel
theorem dX2_eighths_11 : decode cX2_eighths 11 = .ok (.lreturn, 1) := by decide +kernel
set_option maxRecDepth 20000 in
theorem ggX2_told_X2_spot : GoodIn wsX2_told wsX2_spot := goodIn_r _ [7, 8, 2, 9, 10, 6, 11, 12, 13, 14, 15, 16, 17, 24, 25, 26, 27, 28, 29] (by decide +kernel) (by decide +kernel)
set_option maxRecDepth 20000 in
theorem gX2_told_X2_spot : GoodIn wsX2_told (wsV RX2 61 RX2 yX2_spot wsX2_spot) := goodIn_app (goodIn_of _ (by decide +kernel)) ggX2_told_X2_spot
set_option maxRecDepth 20000 in
theorem ggX2_told_X2_eighths : GoodIn wsX2_told wsX2_eighths := goodIn_r _ [21, 22, 23, 24, 25, 26, 27, 28, 29] (by decide +kernel) (by decide +kernel)
set_option maxRecDepth 20000 in
theorem gX2_told_X2_eighths : GoodIn wsX2_told (wsV RX2 73 RX2 yX2_eighths wsX2_eighths) := goodIn_app (goodIn_of _ (by decide +kernel)) ggX2_told_X2_eighths
theorem dX2_told_0 : decode cX2_told 0 = .ok (.aload_n 0, 1) := by decide +kernel
theorem dX2_told_1 : decode cX2_told 1 = .ok (.iload_n 1, 1) := by decide +kernel
theorem dX2_told_2 : decode cX2_told 2 = .ok (.iload_n 2, 1) := by decide +kernel
theorem dX2_told_3 : decode cX2_told 3 = .ok (.iload_n 3, 1) := by decide +kernel
theorem dX2_told_4 : decode cX2_told 4 = .ok (.invokevirtual 61, 3) := by decide +kernel
theorem dX2_told_7 : decode cX2_told 7 = .ok (.istore 4, 2) := by decide +kernel
theorem dX2_told_9 : decode cX2_told 9 = .ok (.iload 4, 2) := by decide +kernel
theorem dX2_told_11 : decode cX2_told 11 = .ok (.iconst (-1), 1) := by decide +kernel
theorem dX2_told_12 : decode cX2_told 12 = .ok (.if_icmp .eq 18, 3) := by decide +kernel
theorem dX2_told_15 : decode cX2_told 15 = .ok (.aload_n 0, 1) := by decide +kernel
theorem dX2_told_16 : decode cX2_told 16 = .ok (.getfield 13, 3) := by decide +kernel
theorem dX2_told_19 : decode cX2_told 19 = .ok (.iload 4, 2) := by decide +kernel
theorem dX2_told_21 : decode cX2_told 21 = .ok (.baload, 1) := by decide +kernel
theorem dX2_told_22 : decode cX2_told 22 = .ok (.ifCond .ne 8, 3) := by decide +kernel
theorem dX2_told_25 : decode cX2_told 25 = .ok (.aload_n 0, 1) := by decide +kernel
theorem dX2_told_26 : decode cX2_told 26 = .ok (.iconst 2, 1) := by decide +kernel
theorem dX2_told_27 : decode cX2_told 27 = .ok (.putfield 24, 3) := by decide +kernel
theorem dX2_told_30 : decode cX2_told 30 = .ok (.aload_n 0, 1) := by decide +kernel
theorem dX2_told_31 : decode cX2_told 31 = .ok (.getfield 24, 3) := by decide +kernel
theorem dX2_told_34 : decode cX2_told 34 = .ok (.ifCond .le 7, 3) := by decide +kernel
theorem dX2_told_37 : decode cX2_told 37 = .ok (.lconst 0, 1) := by decide +kernel
theorem dX2_told_38 : decode cX2_told 38 = .ok (.goto 9, 3) := by decide +kernel
theorem dX2_told_41 : decode cX2_told 41 = .ok (.aload_n 0, 1) := by decide +kernel
theorem dX2_told_42 : decode cX2_told 42 = .ok (.iload 4, 2) := by decide +kernel
theorem dX2_told_44 : decode cX2_told 44 = .ok (.invokevirtual 73, 3) := by decide +kernel
theorem dX2_told_47 : decode cX2_told 47 = .ok (.lreturn, 1) := by decide +kernel
set_option maxRecDepth 20000 in
theorem ggX2_sum_X2_hasEntry : GoodIn wsX2_sum wsX2_hasEntry := goodIn_r _ [7, 8, 9, 10, 6, 11, 12, 13, 14, 15, 1, 25, 26, 27, 28, 29, 30] (by decide +kernel) (by decide +kernel)
set_option maxRecDepth 20000 in
theorem gX2_sum_X2_hasEntry : GoodIn wsX2_sum (wsV RX2 51 RX2 yX2_hasEntry wsX2_hasEntry) := goodIn_app (goodIn_of _ (by decide +kernel)) ggX2_sum_X2_hasEntry
set_option maxRecDepth 20000 in
theorem ggX2_sum_X2_cell : GoodIn wsX2_sum wsX2_cell := goodIn_r _ [18] (by decide +kernel) (by decide +kernel)
set_option maxRecDepth 20000 in
theorem gX2_sum_X2_cell : GoodIn wsX2_sum (va_wsS RX2 39 yX2_cell wsX2_cell) := goodIn_app (goodIn_of _ (by decide +kernel)) ggX2_sum_X2_cell
set_option maxRecDepth 20000 in
theorem ggX2_sum_X2_eighths : GoodIn wsX2_sum wsX2_eighths := goodIn_r _ [22, 23, 24, 25, 26, 27, 28, 29, 30] (by decide +kernel) (by decide +kernel)
set_option maxRecDepth 20000 in
theorem gX2_sum_X2_eighths : GoodIn wsX2_sum (wsV RX2 73 RX2 yX2_eighths wsX2_eighths) := goodIn_app (goodIn_of _ (by decide +kernel)) ggX2_sum_X2_eighths
theorem dX2_sum_0 : decode cX2_sum 0 = .ok (.aload_n 0, 1) := by decide +kernel
theorem dX2_sum_1 : decode cX2_sum 1 = .ok (.iconst 0, 1) := by decide +kernel
theorem dX2_sum_2 : decode cX2_sum 2 = .ok (.putfield 24, 3) := by decide +kernel
theorem dX2_sum_5 : decode cX2_sum 5 = .ok (.lconst 0, 1) := by decide +kernel
theorem dX2_sum_6 : decode cX2_sum 6 = .ok (.lstore_n 3, 1) := by decide +kernel
theorem dX2_sum_7 : decode cX2_sum 7 = .ok (.aload_n 0, 1) := by decide +kernel
theorem dX2_sum_8 : decode cX2_sum 8 = .ok (.iload_n 2, 1) := by decide +kernel
theorem dX2_sum_9 : decode cX2_sum 9 = .ok (.invokevirtual 51, 3) := by decide +kernel
theorem dX2_sum_12 : decode cX2_sum 12 = .ok (.ifCond .ne 5, 3) := by decide +kernel
theorem dX2_sum_15 : decode cX2_sum 15 = .ok (.lconst 0, 1) := by decide +kernel
theorem dX2_sum_16 : decode cX2_sum 16 = .ok (.lreturn, 1) := by decide +kernel
theorem dX2_sum_17 : decode cX2_sum 17 = .ok (.iconst 0, 1) := by decide +kernel
theorem dX2_sum_18 : decode cX2_sum 18 = .ok (.istore 5, 2) := by decide +kernel
theorem dX2_sum_20 : decode cX2_sum 20 = .ok (.iload 5, 2) := by decide +kernel
theorem dX2_sum_22 : decode cX2_sum 22 = .ok (.iconst 5, 1) := by decide +kernel
theorem dX2_sum_23 : decode cX2_sum 23 = .ok (.if_icmp .ge 42, 3) := by decide +kernel
theorem dX2_sum_26 : decode cX2_sum 26 = .ok (.lload_n 3, 1) := by decide +kernel
theorem dX2_sum_27 : decode cX2_sum 27 = .ok (.aload_n 0, 1) := by decide +kernel
theorem dX2_sum_28 : decode cX2_sum 28 = .ok (.getfield 13, 3) := by decide +kernel
theorem dX2_sum_31 : decode cX2_sum 31 = .ok (.iload_n 1, 1) := by decide +kernel
theorem dX2_sum_32 : decode cX2_sum 32 = .ok (.iload_n 2, 1) := by decide +kernel
theorem dX2_sum_33 : decode cX2_sum 33 = .ok (.iload 5, 2) := by decide +kernel
theorem dX2_sum_35 : decode cX2_sum 35 = .ok (.invokestatic 39, 3) := by decide +kernel
theorem dX2_sum_38 : decode cX2_sum 38 = .ok (.baload, 1) := by decide +kernel
theorem dX2_sum_39 : decode cX2_sum 39 = .ok (.ifCond .eq 17, 3) := by decide +kernel
theorem dX2_sum_42 : decode cX2_sum 42 = .ok (.aload_n 0, 1) := by decide +kernel
theorem dX2_sum_43 : decode cX2_sum 43 = .ok (.iload_n 1, 1) := by decide +kernel
theorem dX2_sum_44 : decode cX2_sum 44 = .ok (.iload_n 2, 1) := by decide +kernel
theorem dX2_sum_45 : decode cX2_sum 45 = .ok (.iload 5, 2) := by decide +kernel
theorem dX2_sum_47 : decode cX2_sum 47 = .ok (.invokestatic 39, 3) := by decide +kernel
theorem dX2_sum_50 : decode cX2_sum 50 = .ok (.invokevirtual 73, 3) := by decide +kernel
theorem dX2_sum_53 : decode cX2_sum 53 = .ok (.goto 4, 3) := by decide +kernel
theorem dX2_sum_56 : decode cX2_sum 56 = .ok (.lconst 0, 1) := by decide +kernel
theorem dX2_sum_57 : decode cX2_sum 57 = .ok (.ladd, 1) := by decide +kernel
theorem dX2_sum_58 : decode cX2_sum 58 = .ok (.lstore_n 3, 1) := by decide +kernel
theorem dX2_sum_59 : decode cX2_sum 59 = .ok (.iinc 5 1, 3) := by decide +kernel
theorem dX2_sum_62 : decode cX2_sum 62 = .ok (.goto (-42), 3) := by decide +kernel
theorem dX2_sum_65 : decode cX2_sum 65 = .ok (.lload_n 3, 1) := by decide +kernel
theorem dX2_sum_66 : decode cX2_sum 66 = .ok (.lreturn, 1) := by decide +kernel
set_option maxRecDepth 20000 in
theorem ggX2_count_X2_in : GoodIn wsX2_count wsX2_in := goodIn_r _ [8] (by decide +kernel) (by decide +kernel)
set_option maxRecDepth 20000 in
theorem gX2_count_X2_in : GoodIn wsX2_count (va_wsS RX2 31 yX2_in wsX2_in) := goodIn_app (goodIn_of _ (by decide +kernel)) ggX2_count_X2_in
set_option maxRecDepth 20000 in
theorem ggX2_count_X2_limit : GoodIn wsX2_count wsX2_limit := goodIn_r _ [11] (by decide +kernel) (by decide +kernel)
set_option maxRecDepth 20000 in
theorem gX2_count_X2_limit : GoodIn wsX2_count (va_wsS RX2 43 yX2_limit wsX2_limit) := goodIn_app (goodIn_of _ (by decide +kernel)) ggX2_count_X2_limit
theorem dX2_count_0 : decode cX2_count 0 = .ok (.aload_n 0, 1) := by decide +kernel
theorem dX2_count_1 : decode cX2_count 1 = .ok (.iload_n 1, 1) := by decide +kernel
theorem dX2_count_2 : decode cX2_count 2 = .ok (.bipush 9, 2) := by decide +kernel
theorem dX2_count_4 : decode cX2_count 4 = .ok (.invokestatic 31, 3) := by decide +kernel
theorem dX2_count_7 : decode cX2_count 7 = .ok (.ifCond .eq 7, 3) := by decide +kernel
theorem dX2_count_10 : decode cX2_count 10 = .ok (.iconst 0, 1) := by decide +kernel
theorem dX2_count_11 : decode cX2_count 11 = .ok (.goto 4, 3) := by decide +kernel
theorem dX2_count_14 : decode cX2_count 14 = .ok (.iconst 1, 1) := by decide +kernel
theorem dX2_count_15 : decode cX2_count 15 = .ok (.putfield 24, 3) := by decide +kernel
theorem dX2_count_18 : decode cX2_count 18 = .ok (.aload_n 0, 1) := by decide +kernel
theorem dX2_count_19 : decode cX2_count 19 = .ok (.getfield 24, 3) := by decide +kernel
theorem dX2_count_22 : decode cX2_count 22 = .ok (.ifCond .le 5, 3) := by decide +kernel
theorem dX2_count_25 : decode cX2_count 25 = .ok (.iconst 0, 1) := by decide +kernel
theorem dX2_count_26 : decode cX2_count 26 = .ok (.ireturn, 1) := by decide +kernel
theorem dX2_count_27 : decode cX2_count 27 = .ok (.iconst 0, 1) := by decide +kernel
theorem dX2_count_28 : decode cX2_count 28 = .ok (.istore_n 2, 1) := by decide +kernel
theorem dX2_count_29 : decode cX2_count 29 = .ok (.iconst 0, 1) := by decide +kernel
theorem dX2_count_30 : decode cX2_count 30 = .ok (.istore_n 3, 1) := by decide +kernel
theorem dX2_count_31 : decode cX2_count 31 = .ok (.iconst 0, 1) := by decide +kernel
theorem dX2_count_32 : decode cX2_count 32 = .ok (.istore 4, 2) := by decide +kernel
theorem dX2_count_34 : decode cX2_count 34 = .ok (.iconst 0, 1) := by decide +kernel
theorem dX2_count_35 : decode cX2_count 35 = .ok (.istore 5, 2) := by decide +kernel
theorem dX2_count_37 : decode cX2_count 37 = .ok (.iconst 0, 1) := by decide +kernel
theorem dX2_count_38 : decode cX2_count 38 = .ok (.istore 6, 2) := by decide +kernel
theorem dX2_count_40 : decode cX2_count 40 = .ok (.iload 6, 2) := by decide +kernel
theorem dX2_count_42 : decode cX2_count 42 = .ok (.iconst 5, 1) := by decide +kernel
theorem dX2_count_43 : decode cX2_count 43 = .ok (.aload_n 0, 1) := by decide +kernel
theorem dX2_count_44 : decode cX2_count 44 = .ok (.getfield 28, 3) := by decide +kernel
theorem dX2_count_47 : decode cX2_count 47 = .ok (.imul, 1) := by decide +kernel
theorem dX2_count_48 : decode cX2_count 48 = .ok (.if_icmp .ge 128, 3) := by decide +kernel
theorem dX2_count_51 : decode cX2_count 51 = .ok (.iload_n 2, 1) := by decide +kernel
theorem dX2_count_52 : decode cX2_count 52 = .ok (.aload_n 0, 1) := by decide +kernel
theorem dX2_count_53 : decode cX2_count 53 = .ok (.getfield 13, 3) := by decide +kernel
theorem dX2_count_56 : decode cX2_count 56 = .ok (.iload 6, 2) := by decide +kernel
theorem dX2_count_58 : decode cX2_count 58 = .ok (.baload, 1) := by decide +kernel
theorem dX2_count_59 : decode cX2_count 59 = .ok (.ifCond .eq 7, 3) := by decide +kernel
theorem dX2_count_62 : decode cX2_count 62 = .ok (.iconst 1, 1) := by decide +kernel
theorem dX2_count_63 : decode cX2_count 63 = .ok (.goto 4, 3) := by decide +kernel
theorem dX2_count_66 : decode cX2_count 66 = .ok (.iconst 0, 1) := by decide +kernel
theorem dX2_count_67 : decode cX2_count 67 = .ok (.iadd, 1) := by decide +kernel
theorem dX2_count_68 : decode cX2_count 68 = .ok (.istore_n 2, 1) := by decide +kernel
theorem dX2_count_69 : decode cX2_count 69 = .ok (.iload_n 3, 1) := by decide +kernel
theorem dX2_count_70 : decode cX2_count 70 = .ok (.aload_n 0, 1) := by decide +kernel
theorem dX2_count_71 : decode cX2_count 71 = .ok (.getfield 13, 3) := by decide +kernel
theorem dX2_count_74 : decode cX2_count 74 = .ok (.bipush 30, 2) := by decide +kernel
theorem dX2_count_76 : decode cX2_count 76 = .ok (.iload 6, 2) := by decide +kernel
theorem dX2_count_78 : decode cX2_count 78 = .ok (.iadd, 1) := by decide +kernel
theorem dX2_count_79 : decode cX2_count 79 = .ok (.baload, 1) := by decide +kernel
theorem dX2_count_80 : decode cX2_count 80 = .ok (.ifCond .eq 7, 3) := by decide +kernel
theorem dX2_count_83 : decode cX2_count 83 = .ok (.iconst 1, 1) := by decide +kernel
theorem dX2_count_84 : decode cX2_count 84 = .ok (.goto 4, 3) := by decide +kernel
theorem dX2_count_87 : decode cX2_count 87 = .ok (.iconst 0, 1) := by decide +kernel
theorem dX2_count_88 : decode cX2_count 88 = .ok (.iadd, 1) := by decide +kernel
theorem dX2_count_89 : decode cX2_count 89 = .ok (.istore_n 3, 1) := by decide +kernel
theorem dX2_count_90 : decode cX2_count 90 = .ok (.iload 4, 2) := by decide +kernel
theorem dX2_count_92 : decode cX2_count 92 = .ok (.aload_n 0, 1) := by decide +kernel
theorem dX2_count_93 : decode cX2_count 93 = .ok (.getfield 17, 3) := by decide +kernel
theorem dX2_count_96 : decode cX2_count 96 = .ok (.iload 6, 2) := by decide +kernel
theorem dX2_count_98 : decode cX2_count 98 = .ok (.iaload, 1) := by decide +kernel
theorem dX2_count_99 : decode cX2_count 99 = .ok (.iconst 1, 1) := by decide +kernel
theorem dX2_count_100 : decode cX2_count 100 = .ok (.if_icmp .ne 7, 3) := by decide +kernel
theorem dX2_count_103 : decode cX2_count 103 = .ok (.iconst 1, 1) := by decide +kernel
theorem dX2_count_104 : decode cX2_count 104 = .ok (.goto 4, 3) := by decide +kernel
theorem dX2_count_107 : decode cX2_count 107 = .ok (.iconst 0, 1) := by decide +kernel
theorem dX2_count_108 : decode cX2_count 108 = .ok (.aload_n 0, 1) := by decide +kernel
theorem dX2_count_109 : decode cX2_count 109 = .ok (.getfield 17, 3) := by decide +kernel
theorem dX2_count_112 : decode cX2_count 112 = .ok (.bipush 30, 2) := by decide +kernel
theorem dX2_count_114 : decode cX2_count 114 = .ok (.iload 6, 2) := by decide +kernel
theorem dX2_count_116 : decode cX2_count 116 = .ok (.iadd, 1) := by decide +kernel
theorem dX2_count_117 : decode cX2_count 117 = .ok (.iaload, 1) := by decide +kernel
theorem dX2_count_118 : decode cX2_count 118 = .ok (.iconst 1, 1) := by decide +kernel
theorem dX2_count_119 : decode cX2_count 119 = .ok (.if_icmp .ne 7, 3) := by decide +kernel
theorem dX2_count_122 : decode cX2_count 122 = .ok (.iconst 1, 1) := by decide +kernel
theorem dX2_count_123 : decode cX2_count 123 = .ok (.goto 4, 3) := by decide +kernel
theorem dX2_count_126 : decode cX2_count 126 = .ok (.iconst 0, 1) := by decide +kernel
theorem dX2_count_127 : decode cX2_count 127 = .ok (.iadd, 1) := by decide +kernel
theorem dX2_count_128 : decode cX2_count 128 = .ok (.iadd, 1) := by decide +kernel
theorem dX2_count_129 : decode cX2_count 129 = .ok (.istore 4, 2) := by decide +kernel
theorem dX2_count_131 : decode cX2_count 131 = .ok (.iload 5, 2) := by decide +kernel
theorem dX2_count_133 : decode cX2_count 133 = .ok (.aload_n 0, 1) := by decide +kernel
theorem dX2_count_134 : decode cX2_count 134 = .ok (.getfield 17, 3) := by decide +kernel
theorem dX2_count_137 : decode cX2_count 137 = .ok (.iload 6, 2) := by decide +kernel
theorem dX2_count_139 : decode cX2_count 139 = .ok (.iaload, 1) := by decide +kernel
theorem dX2_count_140 : decode cX2_count 140 = .ok (.ifCond .ne 7, 3) := by decide +kernel
theorem dX2_count_143 : decode cX2_count 143 = .ok (.iconst 1, 1) := by decide +kernel
theorem dX2_count_144 : decode cX2_count 144 = .ok (.goto 4, 3) := by decide +kernel
theorem dX2_count_147 : decode cX2_count 147 = .ok (.iconst 0, 1) := by decide +kernel
theorem dX2_count_148 : decode cX2_count 148 = .ok (.aload_n 0, 1) := by decide +kernel
theorem dX2_count_149 : decode cX2_count 149 = .ok (.getfield 17, 3) := by decide +kernel
theorem dX2_count_152 : decode cX2_count 152 = .ok (.bipush 30, 2) := by decide +kernel
theorem dX2_count_154 : decode cX2_count 154 = .ok (.iload 6, 2) := by decide +kernel
theorem dX2_count_156 : decode cX2_count 156 = .ok (.iadd, 1) := by decide +kernel
theorem dX2_count_157 : decode cX2_count 157 = .ok (.iaload, 1) := by decide +kernel
theorem dX2_count_158 : decode cX2_count 158 = .ok (.ifCond .ne 7, 3) := by decide +kernel
theorem dX2_count_161 : decode cX2_count 161 = .ok (.iconst 1, 1) := by decide +kernel
theorem dX2_count_162 : decode cX2_count 162 = .ok (.goto 4, 3) := by decide +kernel
theorem dX2_count_165 : decode cX2_count 165 = .ok (.iconst 0, 1) := by decide +kernel
theorem dX2_count_166 : decode cX2_count 166 = .ok (.iadd, 1) := by decide +kernel
theorem dX2_count_167 : decode cX2_count 167 = .ok (.iadd, 1) := by decide +kernel
theorem dX2_count_168 : decode cX2_count 168 = .ok (.istore 5, 2) := by decide +kernel
theorem dX2_count_170 : decode cX2_count 170 = .ok (.iinc 6 1, 3) := by decide +kernel
theorem dX2_count_173 : decode cX2_count 173 = .ok (.goto (-133), 3) := by decide +kernel
theorem dX2_count_176 : decode cX2_count 176 = .ok (.iconst 0, 1) := by decide +kernel
theorem dX2_count_177 : decode cX2_count 177 = .ok (.istore 6, 2) := by decide +kernel
theorem dX2_count_179 : decode cX2_count 179 = .ok (.iconst 0, 1) := by decide +kernel
theorem dX2_count_180 : decode cX2_count 180 = .ok (.istore 7, 2) := by decide +kernel
theorem dX2_count_182 : decode cX2_count 182 = .ok (.iconst 0, 1) := by decide +kernel
theorem dX2_count_183 : decode cX2_count 183 = .ok (.istore 8, 2) := by decide +kernel
theorem dX2_count_185 : decode cX2_count 185 = .ok (.iload 8, 2) := by decide +kernel
theorem dX2_count_187 : decode cX2_count 187 = .ok (.iconst 5, 1) := by decide +kernel
theorem dX2_count_188 : decode cX2_count 188 = .ok (.if_icmp .ge 57, 3) := by decide +kernel
theorem dX2_count_191 : decode cX2_count 191 = .ok (.iload 6, 2) := by decide +kernel
theorem dX2_count_193 : decode cX2_count 193 = .ok (.aload_n 0, 1) := by decide +kernel
theorem dX2_count_194 : decode cX2_count 194 = .ok (.getfield 13, 3) := by decide +kernel
theorem dX2_count_197 : decode cX2_count 197 = .ok (.iconst 1, 1) := by decide +kernel
theorem dX2_count_198 : decode cX2_count 198 = .ok (.iload 8, 2) := by decide +kernel
theorem dX2_count_200 : decode cX2_count 200 = .ok (.invokestatic 43, 3) := by decide +kernel
theorem dX2_count_203 : decode cX2_count 203 = .ok (.baload, 1) := by decide +kernel
theorem dX2_count_204 : decode cX2_count 204 = .ok (.ifCond .eq 7, 3) := by decide +kernel
theorem dX2_count_207 : decode cX2_count 207 = .ok (.iconst 1, 1) := by decide +kernel
theorem dX2_count_208 : decode cX2_count 208 = .ok (.goto 4, 3) := by decide +kernel
theorem dX2_count_211 : decode cX2_count 211 = .ok (.iconst 0, 1) := by decide +kernel
theorem dX2_count_212 : decode cX2_count 212 = .ok (.iadd, 1) := by decide +kernel
theorem dX2_count_213 : decode cX2_count 213 = .ok (.istore 6, 2) := by decide +kernel
theorem dX2_count_215 : decode cX2_count 215 = .ok (.iload 7, 2) := by decide +kernel
theorem dX2_count_217 : decode cX2_count 217 = .ok (.aload_n 0, 1) := by decide +kernel
theorem dX2_count_218 : decode cX2_count 218 = .ok (.getfield 13, 3) := by decide +kernel
theorem dX2_count_221 : decode cX2_count 221 = .ok (.iconst 0, 1) := by decide +kernel
theorem dX2_count_222 : decode cX2_count 222 = .ok (.iload 8, 2) := by decide +kernel
theorem dX2_count_224 : decode cX2_count 224 = .ok (.invokestatic 43, 3) := by decide +kernel
theorem dX2_count_227 : decode cX2_count 227 = .ok (.baload, 1) := by decide +kernel
theorem dX2_count_228 : decode cX2_count 228 = .ok (.ifCond .eq 7, 3) := by decide +kernel
theorem dX2_count_231 : decode cX2_count 231 = .ok (.iconst 1, 1) := by decide +kernel
theorem dX2_count_232 : decode cX2_count 232 = .ok (.goto 4, 3) := by decide +kernel
theorem dX2_count_235 : decode cX2_count 235 = .ok (.iconst 0, 1) := by decide +kernel
theorem dX2_count_236 : decode cX2_count 236 = .ok (.iadd, 1) := by decide +kernel
theorem dX2_count_237 : decode cX2_count 237 = .ok (.istore 7, 2) := by decide +kernel
theorem dX2_count_239 : decode cX2_count 239 = .ok (.iinc 8 1, 3) := by decide +kernel
theorem dX2_count_242 : decode cX2_count 242 = .ok (.goto (-57), 3) := by decide +kernel
theorem dX2_count_245 : decode cX2_count 245 = .ok (.iload_n 1, 1) := by decide +kernel
theorem dX2_count_246 : decode cX2_count 246 = .ok (.tableswitch 82 0 7 #[46, 51, 53, 55, 64, 73, 76, 79], 46) := by decide +kernel
theorem dX2_count_292 : decode cX2_count 292 = .ok (.aload_n 0, 1) := by decide +kernel
theorem dX2_count_293 : decode cX2_count 293 = .ok (.getfield 28, 3) := by decide +kernel
theorem dX2_count_296 : decode cX2_count 296 = .ok (.ireturn, 1) := by decide +kernel
theorem dX2_count_297 : decode cX2_count 297 = .ok (.iload_n 2, 1) := by decide +kernel
theorem dX2_count_298 : decode cX2_count 298 = .ok (.ireturn, 1) := by decide +kernel
theorem dX2_count_299 : decode cX2_count 299 = .ok (.iload_n 3, 1) := by decide +kernel
theorem dX2_count_300 : decode cX2_count 300 = .ok (.ireturn, 1) := by decide +kernel
theorem dX2_count_301 : decode cX2_count 301 = .ok (.iconst 5, 1) := by decide +kernel
theorem dX2_count_302 : decode cX2_count 302 = .ok (.aload_n 0, 1) := by decide +kernel
theorem dX2_count_303 : decode cX2_count 303 = .ok (.getfield 28, 3) := by decide +kernel
theorem dX2_count_306 : decode cX2_count 306 = .ok (.imul, 1) := by decide +kernel
theorem dX2_count_307 : decode cX2_count 307 = .ok (.iload_n 2, 1) := by decide +kernel
theorem dX2_count_308 : decode cX2_count 308 = .ok (.isub, 1) := by decide +kernel
theorem dX2_count_309 : decode cX2_count 309 = .ok (.ireturn, 1) := by decide +kernel
theorem dX2_count_310 : decode cX2_count 310 = .ok (.iconst 5, 1) := by decide +kernel
theorem dX2_count_311 : decode cX2_count 311 = .ok (.aload_n 0, 1) := by decide +kernel
theorem dX2_count_312 : decode cX2_count 312 = .ok (.getfield 28, 3) := by decide +kernel
theorem dX2_count_315 : decode cX2_count 315 = .ok (.imul, 1) := by decide +kernel
theorem dX2_count_316 : decode cX2_count 316 = .ok (.iload_n 3, 1) := by decide +kernel
theorem dX2_count_317 : decode cX2_count 317 = .ok (.isub, 1) := by decide +kernel
theorem dX2_count_318 : decode cX2_count 318 = .ok (.ireturn, 1) := by decide +kernel
theorem dX2_count_319 : decode cX2_count 319 = .ok (.iload 6, 2) := by decide +kernel
theorem dX2_count_321 : decode cX2_count 321 = .ok (.ireturn, 1) := by decide +kernel
theorem dX2_count_322 : decode cX2_count 322 = .ok (.iload 7, 2) := by decide +kernel
theorem dX2_count_324 : decode cX2_count 324 = .ok (.ireturn, 1) := by decide +kernel
theorem dX2_count_325 : decode cX2_count 325 = .ok (.iload 4, 2) := by decide +kernel
theorem dX2_count_327 : decode cX2_count 327 = .ok (.ireturn, 1) := by decide +kernel
theorem dX2_count_328 : decode cX2_count 328 = .ok (.iload 5, 2) := by decide +kernel
theorem dX2_count_330 : decode cX2_count 330 = .ok (.ireturn, 1) := by decide +kernel
theorem dJ7_fill_d0a16_0 : decode cJ7_fill_d0a16 0 = .ok (.iconst 0, 1) := by decide +kernel
theorem dJ7_fill_d0a16_1 : decode cJ7_fill_d0a16 1 = .ok (.istore_n 3, 1) := by decide +kernel
theorem dJ7_fill_d0a16_2 : decode cJ7_fill_d0a16 2 = .ok (.aload_n 0, 1) := by decide +kernel
theorem dJ7_fill_d0a16_3 : decode cJ7_fill_d0a16 3 = .ok (.arraylength, 1) := by decide +kernel
theorem dJ7_fill_d0a16_4 : decode cJ7_fill_d0a16 4 = .ok (.istore 4, 2) := by decide +kernel
theorem dJ7_fill_d0a16_6 : decode cJ7_fill_d0a16 6 = .ok (.iload_n 3, 1) := by decide +kernel
theorem dJ7_fill_d0a16_7 : decode cJ7_fill_d0a16 7 = .ok (.iload 4, 2) := by decide +kernel
theorem dJ7_fill_d0a16_9 : decode cJ7_fill_d0a16 9 = .ok (.if_icmp .ge 13, 3) := by decide +kernel
theorem dJ7_fill_d0a16_12 : decode cJ7_fill_d0a16 12 = .ok (.aload_n 0, 1) := by decide +kernel
theorem dJ7_fill_d0a16_13 : decode cJ7_fill_d0a16 13 = .ok (.iload_n 3, 1) := by decide +kernel
theorem dJ7_fill_d0a16_14 : decode cJ7_fill_d0a16 14 = .ok (.lload_n 1, 1) := by decide +kernel
theorem dJ7_fill_d0a16_15 : decode cJ7_fill_d0a16 15 = .ok (.lastore, 1) := by decide +kernel
theorem dJ7_fill_d0a16_16 : decode cJ7_fill_d0a16 16 = .ok (.iinc 3 1, 3) := by decide +kernel
theorem dJ7_fill_d0a16_19 : decode cJ7_fill_d0a16 19 = .ok (.goto (-13), 3) := by decide +kernel
theorem dJ7_fill_d0a16_22 : decode cJ7_fill_d0a16 22 = .ok (.return_, 1) := by decide +kernel
theorem dJ7_fill_53178_0 : decode cJ7_fill_53178 0 = .ok (.iconst 0, 1) := by decide +kernel
theorem dJ7_fill_53178_1 : decode cJ7_fill_53178 1 = .ok (.istore_n 2, 1) := by decide +kernel
theorem dJ7_fill_53178_2 : decode cJ7_fill_53178 2 = .ok (.aload_n 0, 1) := by decide +kernel
theorem dJ7_fill_53178_3 : decode cJ7_fill_53178 3 = .ok (.arraylength, 1) := by decide +kernel
theorem dJ7_fill_53178_4 : decode cJ7_fill_53178 4 = .ok (.istore_n 3, 1) := by decide +kernel
theorem dJ7_fill_53178_5 : decode cJ7_fill_53178 5 = .ok (.iload_n 2, 1) := by decide +kernel
theorem dJ7_fill_53178_6 : decode cJ7_fill_53178 6 = .ok (.iload_n 3, 1) := by decide +kernel
theorem dJ7_fill_53178_7 : decode cJ7_fill_53178 7 = .ok (.if_icmp .ge 13, 3) := by decide +kernel
theorem dJ7_fill_53178_10 : decode cJ7_fill_53178 10 = .ok (.aload_n 0, 1) := by decide +kernel
theorem dJ7_fill_53178_11 : decode cJ7_fill_53178 11 = .ok (.iload_n 2, 1) := by decide +kernel
theorem dJ7_fill_53178_12 : decode cJ7_fill_53178 12 = .ok (.iload_n 1, 1) := by decide +kernel
theorem dJ7_fill_53178_13 : decode cJ7_fill_53178 13 = .ok (.iastore, 1) := by decide +kernel
theorem dJ7_fill_53178_14 : decode cJ7_fill_53178 14 = .ok (.iinc 2 1, 3) := by decide +kernel
theorem dJ7_fill_53178_17 : decode cJ7_fill_53178 17 = .ok (.goto (-12), 3) := by decide +kernel
theorem dJ7_fill_53178_20 : decode cJ7_fill_53178 20 = .ok (.return_, 1) := by decide +kernel
set_option maxRecDepth 20000 in
theorem ggL_entry_X1_entry : GoodIn wsL_entry wsX1_entry := goodIn_ca (goodIn_r _ [6, 7, 8, 9, 10, 11, 12, 13] (by decide +kernel) (by decide +kernel)) (goodIn_sub (fun _ h => List.mem_cons_of_mem _ (List.mem_append_right _ h)) (by decide +kernel))
set_option maxRecDepth 20000 in
theorem gL_entry_X1_entry : GoodIn wsL_entry (wsV RL 7 RX1 yX1_entry wsX1_entry) := goodIn_app (goodIn_of _ (by decide +kernel)) ggL_entry_X1_entry
theorem dL_entry_0 : decode cL_entry 0 = .ok (.aload_n 1, 1) := by decide +kernel
theorem dL_entry_1 : decode cL_entry 1 = .ok (.iconst 0, 1) := by decide +kernel
theorem dL_entry_2 : decode cL_entry 2 = .ok (.aload_n 0, 1) := by decide +kernel
theorem dL_entry_3 : decode cL_entry 3 = .ok (.invokevirtual 7, 3) := by decide +kernel
theorem dL_entry_6 : decode cL_entry 6 = .ok (.i2l, 1) := by decide +kernel
theorem dL_entry_7 : decode cL_entry 7 = .ok (.lastore, 1) := by decide +kernel
theorem dL_entry_8 : decode cL_entry 8 = .ok (.goto 6, 3) := by decide +kernel
theorem dL_entry_11 : decode cL_entry 11 = .ok (.astore_n 2, 1) := by decide +kernel
theorem dL_entry_12 : decode cL_entry 12 = .ok (.iconst 1, 1) := by decide +kernel
theorem dL_entry_13 : decode cL_entry 13 = .ok (.ireturn, 1) := by decide +kernel
theorem dL_entry_14 : decode cL_entry 14 = .ok (.iconst 0, 1) := by decide +kernel
theorem dL_entry_15 : decode cL_entry 15 = .ok (.ireturn, 1) := by decide +kernel
set_option maxRecDepth 20000 in
theorem ggL_mark_X1_mark : GoodIn wsL_mark wsX1_mark := goodIn_ca (goodIn_r _ [6, 7, 8, 9, 10, 5, 11, 12, 13, 14, 15, 16, 17, 18, 19, 20, 21, 22, 23, 24, 25, 26, 27, 28, 29, 30, 31, 32, 33, 34, 35] (by decide +kernel) (by decide +kernel)) (goodIn_sub (fun _ h => List.mem_cons_of_mem _ (List.mem_append_right _ h)) (by decide +kernel))
set_option maxRecDepth 20000 in
theorem gL_mark_X1_mark : GoodIn wsL_mark (wsV RL 15 RX1 yX1_mark wsX1_mark) := goodIn_app (goodIn_of _ (by decide +kernel)) ggL_mark_X1_mark
theorem dL_mark_0 : decode cL_mark 0 = .ok (.aload_n 0, 1) := by decide +kernel
theorem dL_mark_1 : decode cL_mark 1 = .ok (.iload_n 1, 1) := by decide +kernel
theorem dL_mark_2 : decode cL_mark 2 = .ok (.iload_n 2, 1) := by decide +kernel
theorem dL_mark_3 : decode cL_mark 3 = .ok (.dload_n 3, 1) := by decide +kernel
theorem dL_mark_4 : decode cL_mark 4 = .ok (.invokevirtual 15, 3) := by decide +kernel
theorem dL_mark_7 : decode cL_mark 7 = .ok (.goto 7, 3) := by decide +kernel
theorem dL_mark_10 : decode cL_mark 10 = .ok (.astore 5, 2) := by decide +kernel
theorem dL_mark_12 : decode cL_mark 12 = .ok (.iconst 1, 1) := by decide +kernel
theorem dL_mark_13 : decode cL_mark 13 = .ok (.ireturn, 1) := by decide +kernel
theorem dL_mark_14 : decode cL_mark 14 = .ok (.iconst 0, 1) := by decide +kernel
theorem dL_mark_15 : decode cL_mark 15 = .ok (.ireturn, 1) := by decide +kernel
set_option maxRecDepth 20000 in
theorem ggL_points_X1_points : GoodIn wsL_points wsX1_points := goodIn_ca (goodIn_r _ [6, 7, 8, 9, 10, 5, 11, 12, 13, 14, 15, 16, 17, 18, 19, 20, 21, 22, 23, 24, 25, 26, 27, 28, 29, 30, 31, 32, 33, 34, 35, 36, 37, 38, 39, 40, 41, 42, 43] (by decide +kernel) (by decide +kernel)) (goodIn_sub (fun _ h => List.mem_cons_of_mem _ (List.mem_append_right _ h)) (by decide +kernel))
set_option maxRecDepth 20000 in
theorem gL_points_X1_points : GoodIn wsL_points (wsV RL 21 RX1 yX1_points wsX1_points) := goodIn_app (goodIn_of _ (by decide +kernel)) ggL_points_X1_points
theorem dL_points_0 : decode cL_points 0 = .ok (.aload_n 0, 1) := by decide +kernel
theorem dL_points_1 : decode cL_points 1 = .ok (.iload_n 1, 1) := by decide +kernel
theorem dL_points_2 : decode cL_points 2 = .ok (.iload_n 2, 1) := by decide +kernel
theorem dL_points_3 : decode cL_points 3 = .ok (.fload_n 3, 1) := by decide +kernel
theorem dL_points_4 : decode cL_points 4 = .ok (.invokevirtual 21, 3) := by decide +kernel
theorem dL_points_7 : decode cL_points 7 = .ok (.goto 7, 3) := by decide +kernel
theorem dL_points_10 : decode cL_points 10 = .ok (.astore 4, 2) := by decide +kernel
theorem dL_points_12 : decode cL_points 12 = .ok (.iconst 1, 1) := by decide +kernel
theorem dL_points_13 : decode cL_points 13 = .ok (.ireturn, 1) := by decide +kernel
theorem dL_points_14 : decode cL_points 14 = .ok (.iconst 0, 1) := by decide +kernel
theorem dL_points_15 : decode cL_points 15 = .ok (.ireturn, 1) := by decide +kernel
set_option maxRecDepth 20000 in
theorem ggL_bar_X1_bar : GoodIn wsL_bar wsX1_bar := goodIn_ca (goodIn_r _ [6, 7, 8, 9, 5, 10, 11, 12, 13, 14, 15, 16, 17, 18, 19, 20, 21, 22, 23, 24, 25, 26, 27, 28, 29, 30] (by decide +kernel) (by decide +kernel)) (goodIn_sub (fun _ h => List.mem_cons_of_mem _ (List.mem_append_right _ h)) (by decide +kernel))
set_option maxRecDepth 20000 in
theorem gL_bar_X1_bar : GoodIn wsL_bar (wsV RL 25 RX1 yX1_bar wsX1_bar) := goodIn_app (goodIn_of _ (by decide +kernel)) ggL_bar_X1_bar
theorem dL_bar_0 : decode cL_bar 0 = .ok (.aload_n 0, 1) := by decide +kernel
theorem dL_bar_1 : decode cL_bar 1 = .ok (.iload_n 1, 1) := by decide +kernel
theorem dL_bar_2 : decode cL_bar 2 = .ok (.dload_n 2, 1) := by decide +kernel
theorem dL_bar_3 : decode cL_bar 3 = .ok (.invokevirtual 25, 3) := by decide +kernel
theorem dL_bar_6 : decode cL_bar 6 = .ok (.goto 7, 3) := by decide +kernel
theorem dL_bar_9 : decode cL_bar 9 = .ok (.astore 4, 2) := by decide +kernel
theorem dL_bar_11 : decode cL_bar 11 = .ok (.iconst 1, 1) := by decide +kernel
theorem dL_bar_12 : decode cL_bar 12 = .ok (.ireturn, 1) := by decide +kernel
theorem dL_bar_13 : decode cL_bar 13 = .ok (.iconst 0, 1) := by decide +kernel
theorem dL_bar_14 : decode cL_bar 14 = .ok (.ireturn, 1) := by decide +kernel
set_option maxRecDepth 20000 in
theorem ggL_line_X1_line : GoodIn wsL_line wsX1_line := goodIn_ca (goodIn_r _ [6, 7, 8, 9, 5, 10, 11, 12, 13, 14, 15, 16, 17, 18, 19, 20, 21, 22, 23, 24, 25, 26, 27, 28, 29, 30, 31, 32, 33, 34, 35, 36, 37, 38] (by decide +kernel) (by decide +kernel)) (goodIn_sub (fun _ h => List.mem_cons_of_mem _ (List.mem_append_right _ h)) (by decide +kernel))
set_option maxRecDepth 20000 in
theorem gL_line_X1_line : GoodIn wsL_line (wsV RL 29 RX1 yX1_line wsX1_line) := goodIn_app (goodIn_of _ (by decide +kernel)) ggL_line_X1_line
theorem dL_line_0 : decode cL_line 0 = .ok (.aload_n 0, 1) := by decide +kernel
theorem dL_line_1 : decode cL_line 1 = .ok (.iload_n 1, 1) := by decide +kernel
theorem dL_line_2 : decode cL_line 2 = .ok (.fload_n 2, 1) := by decide +kernel
theorem dL_line_3 : decode cL_line 3 = .ok (.invokevirtual 29, 3) := by decide +kernel
theorem dL_line_6 : decode cL_line 6 = .ok (.goto 6, 3) := by decide +kernel
theorem dL_line_9 : decode cL_line 9 = .ok (.astore_n 3, 1) := by decide +kernel
theorem dL_line_10 : decode cL_line 10 = .ok (.iconst 1, 1) := by decide +kernel
theorem dL_line_11 : decode cL_line 11 = .ok (.ireturn, 1) := by decide +kernel
theorem dL_line_12 : decode cL_line 12 = .ok (.iconst 0, 1) := by decide +kernel
theorem dL_line_13 : decode cL_line 13 = .ok (.ireturn, 1) := by decide +kernel
set_option maxRecDepth 20000 in
theorem ggL_clear_X1_clear : GoodIn wsL_clear wsX1_clear := goodIn_ca (goodIn_r _ [6, 7, 8, 9, 5, 10, 11, 12, 13, 14, 15, 16, 17, 18, 19, 20, 21, 22, 23, 24, 25, 26, 27, 28, 29, 30, 31, 32, 33, 34, 35, 36, 37, 38, 39, 40, 41, 42, 43, 44, 45, 46] (by decide +kernel) (by decide +kernel)) (goodIn_sub (fun _ h => List.mem_cons_of_mem _ (List.mem_append_right _ h)) (by decide +kernel))
set_option maxRecDepth 20000 in
theorem gL_clear_X1_clear : GoodIn wsL_clear (wsV RL 33 RX1 yX1_clear wsX1_clear) := goodIn_app (goodIn_of _ (by decide +kernel)) ggL_clear_X1_clear
theorem dL_clear_0 : decode cL_clear 0 = .ok (.aload 4, 2) := by decide +kernel
theorem dL_clear_2 : decode cL_clear 2 = .ok (.iconst 0, 1) := by decide +kernel
theorem dL_clear_3 : decode cL_clear 3 = .ok (.aload_n 0, 1) := by decide +kernel
theorem dL_clear_4 : decode cL_clear 4 = .ok (.iload_n 1, 1) := by decide +kernel
theorem dL_clear_5 : decode cL_clear 5 = .ok (.iload_n 2, 1) := by decide +kernel
theorem dL_clear_6 : decode cL_clear 6 = .ok (.iload_n 3, 1) := by decide +kernel
theorem dL_clear_7 : decode cL_clear 7 = .ok (.invokevirtual 33, 3) := by decide +kernel
theorem dL_clear_10 : decode cL_clear 10 = .ok (.ifCond .eq 7, 3) := by decide +kernel
theorem dL_clear_13 : decode cL_clear 13 = .ok (.lconst 1, 1) := by decide +kernel
theorem dL_clear_14 : decode cL_clear 14 = .ok (.goto 4, 3) := by decide +kernel
theorem dL_clear_17 : decode cL_clear 17 = .ok (.lconst 0, 1) := by decide +kernel
theorem dL_clear_18 : decode cL_clear 18 = .ok (.lastore, 1) := by decide +kernel
theorem dL_clear_19 : decode cL_clear 19 = .ok (.goto 7, 3) := by decide +kernel
theorem dL_clear_22 : decode cL_clear 22 = .ok (.astore 5, 2) := by decide +kernel
theorem dL_clear_24 : decode cL_clear 24 = .ok (.iconst 1, 1) := by decide +kernel
theorem dL_clear_25 : decode cL_clear 25 = .ok (.ireturn, 1) := by decide +kernel
theorem dL_clear_26 : decode cL_clear 26 = .ok (.iconst 0, 1) := by decide +kernel
theorem dL_clear_27 : decode cL_clear 27 = .ok (.ireturn, 1) := by decide +kernel
set_option maxRecDepth 20000 in
theorem ggL_holds_X1_holds : GoodIn wsL_holds wsX1_holds := goodIn_ca (goodIn_ca (goodIn_r _ [7, 8, 9, 10, 6, 11, 12, 13, 14, 15, 16, 17, 18, 19, 20, 21, 22, 23, 24, 25, 26, 27, 28, 29, 30, 31, 32, 33, 34, 35, 36, 37, 38, 39, 40, 41, 42, 43, 44, 45, 46, 47, 48, 49, 50, 51, 52] (by decide +kernel) (by decide +kernel)) (goodIn_sub (fun _ h => List.mem_cons_of_mem _ (List.mem_append_left _ (List.mem_append_right _ h))) (by decide +kernel))) (goodIn_sub (fun _ h => List.mem_cons_of_mem _ (List.mem_append_right _ h)) (by decide +kernel))
set_option maxRecDepth 20000 in
theorem gL_holds_X1_holds : GoodIn wsL_holds (wsV RL 37 RX1 yX1_holds wsX1_holds) := goodIn_app (goodIn_of _ (by decide +kernel)) ggL_holds_X1_holds
theorem dL_holds_0 : decode cL_holds 0 = .ok (.aload 5, 2) := by decide +kernel
theorem dL_holds_2 : decode cL_holds 2 = .ok (.iconst 0, 1) := by decide +kernel
theorem dL_holds_3 : decode cL_holds 3 = .ok (.aload_n 0, 1) := by decide +kernel
theorem dL_holds_4 : decode cL_holds 4 = .ok (.iload_n 1, 1) := by decide +kernel
theorem dL_holds_5 : decode cL_holds 5 = .ok (.iload_n 2, 1) := by decide +kernel
theorem dL_holds_6 : decode cL_holds 6 = .ok (.iload_n 3, 1) := by decide +kernel
theorem dL_holds_7 : decode cL_holds 7 = .ok (.iload 4, 2) := by decide +kernel
theorem dL_holds_9 : decode cL_holds 9 = .ok (.invokevirtual 37, 3) := by decide +kernel
theorem dL_holds_12 : decode cL_holds 12 = .ok (.ifCond .eq 7, 3) := by decide +kernel
theorem dL_holds_15 : decode cL_holds 15 = .ok (.lconst 1, 1) := by decide +kernel
theorem dL_holds_16 : decode cL_holds 16 = .ok (.goto 4, 3) := by decide +kernel
theorem dL_holds_19 : decode cL_holds 19 = .ok (.lconst 0, 1) := by decide +kernel
theorem dL_holds_20 : decode cL_holds 20 = .ok (.lastore, 1) := by decide +kernel
theorem dL_holds_21 : decode cL_holds 21 = .ok (.goto 11, 3) := by decide +kernel
theorem dL_holds_24 : decode cL_holds 24 = .ok (.astore 6, 2) := by decide +kernel
theorem dL_holds_26 : decode cL_holds 26 = .ok (.iconst 1, 1) := by decide +kernel
theorem dL_holds_27 : decode cL_holds 27 = .ok (.ireturn, 1) := by decide +kernel
theorem dL_holds_28 : decode cL_holds 28 = .ok (.astore 6, 2) := by decide +kernel
theorem dL_holds_30 : decode cL_holds 30 = .ok (.iconst 2, 1) := by decide +kernel
theorem dL_holds_31 : decode cL_holds 31 = .ok (.ireturn, 1) := by decide +kernel
theorem dL_holds_32 : decode cL_holds 32 = .ok (.iconst 0, 1) := by decide +kernel
theorem dL_holds_33 : decode cL_holds 33 = .ok (.ireturn, 1) := by decide +kernel
set_option maxRecDepth 20000 in
theorem ggL_tally_X1_tally : GoodIn wsL_tally wsX1_tally := goodIn_ca (goodIn_ca (goodIn_r _ [7, 8, 9, 10, 6, 11, 12, 13, 14, 15, 16, 17, 18, 19, 20, 21, 22, 23, 24, 25, 26, 27, 28, 29, 30, 31, 32, 33, 34, 35, 36, 37, 38, 39, 40, 41, 42, 43, 44, 45, 46, 47, 48, 49, 50, 51, 52, 53] (by decide +kernel) (by decide +kernel)) (goodIn_sub (fun _ h => List.mem_cons_of_mem _ (List.mem_append_left _ (List.mem_append_right _ h))) (by decide +kernel))) (goodIn_sub (fun _ h => List.mem_cons_of_mem _ (List.mem_append_right _ h)) (by decide +kernel))
set_option maxRecDepth 20000 in
theorem gL_tally_X1_tally : GoodIn wsL_tally (wsV RL 43 RX1 yX1_tally wsX1_tally) := goodIn_app (goodIn_of _ (by decide +kernel)) ggL_tally_X1_tally
theorem dL_tally_0 : decode cL_tally 0 = .ok (.aload 4, 2) := by decide +kernel
theorem dL_tally_2 : decode cL_tally 2 = .ok (.iconst 0, 1) := by decide +kernel
theorem dL_tally_3 : decode cL_tally 3 = .ok (.aload_n 0, 1) := by decide +kernel
theorem dL_tally_4 : decode cL_tally 4 = .ok (.iload_n 1, 1) := by decide +kernel
theorem dL_tally_5 : decode cL_tally 5 = .ok (.iload_n 2, 1) := by decide +kernel
theorem dL_tally_6 : decode cL_tally 6 = .ok (.iload_n 3, 1) := by decide +kernel
theorem dL_tally_7 : decode cL_tally 7 = .ok (.invokevirtual 43, 3) := by decide +kernel
theorem dL_tally_10 : decode cL_tally 10 = .ok (.i2l, 1) := by decide +kernel
theorem dL_tally_11 : decode cL_tally 11 = .ok (.lastore, 1) := by decide +kernel
theorem dL_tally_12 : decode cL_tally 12 = .ok (.goto 11, 3) := by decide +kernel
theorem dL_tally_15 : decode cL_tally 15 = .ok (.astore 5, 2) := by decide +kernel
theorem dL_tally_17 : decode cL_tally 17 = .ok (.iconst 1, 1) := by decide +kernel
theorem dL_tally_18 : decode cL_tally 18 = .ok (.ireturn, 1) := by decide +kernel
theorem dL_tally_19 : decode cL_tally 19 = .ok (.astore 5, 2) := by decide +kernel
theorem dL_tally_21 : decode cL_tally 21 = .ok (.iconst 2, 1) := by decide +kernel
theorem dL_tally_22 : decode cL_tally 22 = .ok (.ireturn, 1) := by decide +kernel
theorem dL_tally_23 : decode cL_tally 23 = .ok (.iconst 0, 1) := by decide +kernel
theorem dL_tally_24 : decode cL_tally 24 = .ok (.ireturn, 1) := by decide +kernel
set_option maxRecDepth 20000 in
theorem ggL_run_X1_run : GoodIn wsL_run wsX1_run := goodIn_ca (goodIn_ca (goodIn_r _ [7, 8, 9, 10, 6, 11, 12, 13, 14, 15, 16, 17, 18, 19, 20, 21, 22, 23, 24, 25, 26, 27, 28, 29, 30, 31, 32, 33, 34, 35, 36, 37, 38, 39, 40, 41, 42, 43, 44, 45, 46, 47, 48, 49, 50, 51, 52, 53, 54, 55, 56] (by decide +kernel) (by decide +kernel)) (goodIn_sub (fun _ h => List.mem_cons_of_mem _ (List.mem_append_left _ (List.mem_append_right _ h))) (by decide +kernel))) (goodIn_sub (fun _ h => List.mem_cons_of_mem _ (List.mem_append_right _ h)) (by decide +kernel))
set_option maxRecDepth 20000 in
theorem gL_run_X1_run : GoodIn wsL_run (wsV RL 47 RX1 yX1_run wsX1_run) := goodIn_app (goodIn_of _ (by decide +kernel)) ggL_run_X1_run
theorem dL_run_0 : decode cL_run 0 = .ok (.aload 5, 2) := by decide +kernel
theorem dL_run_2 : decode cL_run 2 = .ok (.iconst 0, 1) := by decide +kernel
theorem dL_run_3 : decode cL_run 3 = .ok (.aload_n 0, 1) := by decide +kernel
theorem dL_run_4 : decode cL_run 4 = .ok (.iload_n 1, 1) := by decide +kernel
theorem dL_run_5 : decode cL_run 5 = .ok (.iload_n 2, 1) := by decide +kernel
theorem dL_run_6 : decode cL_run 6 = .ok (.iload_n 3, 1) := by decide +kernel
theorem dL_run_7 : decode cL_run 7 = .ok (.iload 4, 2) := by decide +kernel
theorem dL_run_9 : decode cL_run 9 = .ok (.invokevirtual 47, 3) := by decide +kernel
theorem dL_run_12 : decode cL_run 12 = .ok (.i2l, 1) := by decide +kernel
theorem dL_run_13 : decode cL_run 13 = .ok (.lastore, 1) := by decide +kernel
theorem dL_run_14 : decode cL_run 14 = .ok (.goto 11, 3) := by decide +kernel
theorem dL_run_17 : decode cL_run 17 = .ok (.astore 6, 2) := by decide +kernel
theorem dL_run_19 : decode cL_run 19 = .ok (.iconst 1, 1) := by decide +kernel
theorem dL_run_20 : decode cL_run 20 = .ok (.ireturn, 1) := by decide +kernel
theorem dL_run_21 : decode cL_run 21 = .ok (.astore 6, 2) := by decide +kernel
theorem dL_run_23 : decode cL_run 23 = .ok (.iconst 2, 1) := by decide +kernel
theorem dL_run_24 : decode cL_run 24 = .ok (.ireturn, 1) := by decide +kernel
theorem dL_run_25 : decode cL_run 25 = .ok (.iconst 0, 1) := by decide +kernel
theorem dL_run_26 : decode cL_run 26 = .ok (.ireturn, 1) := by decide +kernel
set_option maxRecDepth 20000 in
theorem ggL_keep_X1_keep : GoodIn wsL_keep wsX1_keep := goodIn_ca (goodIn_ca (goodIn_r _ [7, 8, 9, 10, 6, 11, 12, 13, 14, 15, 16, 17, 18, 19, 20, 21, 22, 23, 24, 25, 26, 27, 28, 29, 30, 31, 32, 33, 34, 35, 36, 37, 38, 39, 40, 41, 42, 43, 44, 45, 46, 47, 48, 49, 50, 51, 52, 53, 54, 55, 56, 57] (by decide +kernel) (by decide +kernel)) (goodIn_sub (fun _ h => List.mem_cons_of_mem _ (List.mem_append_left _ (List.mem_append_right _ h))) (by decide +kernel))) (goodIn_sub (fun _ h => List.mem_cons_of_mem _ (List.mem_append_right _ h)) (by decide +kernel))
set_option maxRecDepth 20000 in
theorem gL_keep_X1_keep : GoodIn wsL_keep (wsV RL 51 RX1 yX1_keep wsX1_keep) := goodIn_app (goodIn_of _ (by decide +kernel)) ggL_keep_X1_keep
theorem dL_keep_0 : decode cL_keep 0 = .ok (.aload 5, 2) := by decide +kernel
theorem dL_keep_2 : decode cL_keep 2 = .ok (.iconst 0, 1) := by decide +kernel
theorem dL_keep_3 : decode cL_keep 3 = .ok (.aload_n 0, 1) := by decide +kernel
theorem dL_keep_4 : decode cL_keep 4 = .ok (.iload_n 1, 1) := by decide +kernel
theorem dL_keep_5 : decode cL_keep 5 = .ok (.iload_n 2, 1) := by decide +kernel
theorem dL_keep_6 : decode cL_keep 6 = .ok (.iload_n 3, 1) := by decide +kernel
theorem dL_keep_7 : decode cL_keep 7 = .ok (.iload 4, 2) := by decide +kernel
theorem dL_keep_9 : decode cL_keep 9 = .ok (.invokevirtual 51, 3) := by decide +kernel
theorem dL_keep_12 : decode cL_keep 12 = .ok (.ifCond .eq 7, 3) := by decide +kernel
theorem dL_keep_15 : decode cL_keep 15 = .ok (.lconst 1, 1) := by decide +kernel
theorem dL_keep_16 : decode cL_keep 16 = .ok (.goto 4, 3) := by decide +kernel
theorem dL_keep_19 : decode cL_keep 19 = .ok (.lconst 0, 1) := by decide +kernel
theorem dL_keep_20 : decode cL_keep 20 = .ok (.lastore, 1) := by decide +kernel
theorem dL_keep_21 : decode cL_keep 21 = .ok (.goto 11, 3) := by decide +kernel
theorem dL_keep_24 : decode cL_keep 24 = .ok (.astore 6, 2) := by decide +kernel
theorem dL_keep_26 : decode cL_keep 26 = .ok (.iconst 1, 1) := by decide +kernel
theorem dL_keep_27 : decode cL_keep 27 = .ok (.ireturn, 1) := by decide +kernel
theorem dL_keep_28 : decode cL_keep 28 = .ok (.astore 6, 2) := by decide +kernel
theorem dL_keep_30 : decode cL_keep 30 = .ok (.iconst 2, 1) := by decide +kernel
theorem dL_keep_31 : decode cL_keep 31 = .ok (.ireturn, 1) := by decide +kernel
theorem dL_keep_32 : decode cL_keep 32 = .ok (.iconst 0, 1) := by decide +kernel
theorem dL_keep_33 : decode cL_keep 33 = .ok (.ireturn, 1) := by decide +kernel
set_option maxRecDepth 20000 in
theorem ggL_kept_X1_kept : GoodIn wsL_kept wsX1_kept := goodIn_ca (goodIn_r _ [6, 7, 8, 9, 5, 10, 11, 12, 13, 14, 15, 16, 17, 18, 19, 20, 21, 22, 23, 24, 25, 26, 27, 28, 29, 30, 31, 32, 33, 34, 35, 36, 37, 38, 39] (by decide +kernel) (by decide +kernel)) (goodIn_sub (fun _ h => List.mem_cons_of_mem _ (List.mem_append_right _ h)) (by decide +kernel))
set_option maxRecDepth 20000 in
theorem gL_kept_X1_kept : GoodIn wsL_kept (wsV RL 54 RX1 yX1_kept wsX1_kept) := goodIn_app (goodIn_of _ (by decide +kernel)) ggL_kept_X1_kept
theorem dL_kept_0 : decode cL_kept 0 = .ok (.aload 4, 2) := by decide +kernel
theorem dL_kept_2 : decode cL_kept 2 = .ok (.iconst 0, 1) := by decide +kernel
theorem dL_kept_3 : decode cL_kept 3 = .ok (.aload_n 0, 1) := by decide +kernel
theorem dL_kept_4 : decode cL_kept 4 = .ok (.iload_n 1, 1) := by decide +kernel
theorem dL_kept_5 : decode cL_kept 5 = .ok (.iload_n 2, 1) := by decide +kernel
theorem dL_kept_6 : decode cL_kept 6 = .ok (.iload_n 3, 1) := by decide +kernel
theorem dL_kept_7 : decode cL_kept 7 = .ok (.invokevirtual 54, 3) := by decide +kernel
theorem dL_kept_10 : decode cL_kept 10 = .ok (.i2l, 1) := by decide +kernel
theorem dL_kept_11 : decode cL_kept 11 = .ok (.lastore, 1) := by decide +kernel
theorem dL_kept_12 : decode cL_kept 12 = .ok (.goto 7, 3) := by decide +kernel
theorem dL_kept_15 : decode cL_kept 15 = .ok (.astore 5, 2) := by decide +kernel
theorem dL_kept_17 : decode cL_kept 17 = .ok (.iconst 1, 1) := by decide +kernel
theorem dL_kept_18 : decode cL_kept 18 = .ok (.ireturn, 1) := by decide +kernel
theorem dL_kept_19 : decode cL_kept 19 = .ok (.iconst 0, 1) := by decide +kernel
theorem dL_kept_20 : decode cL_kept 20 = .ok (.ireturn, 1) := by decide +kernel
set_option maxRecDepth 20000 in
theorem ggL_place_X1_place : GoodIn wsL_place wsX1_place := goodIn_ca (goodIn_r _ [6, 7, 8, 9, 10, 5, 11, 12, 13, 14, 15, 16, 17, 18, 19, 20, 21, 22, 23, 24, 25, 26, 27, 28, 29, 30, 31, 32, 33, 34, 35, 36, 37, 38, 39, 40, 41, 42, 43, 44, 45, 46, 47, 48, 49, 50, 51, 52] (by decide +kernel) (by decide +kernel)) (goodIn_sub (fun _ h => List.mem_cons_of_mem _ (List.mem_append_right _ h)) (by decide +kernel))
set_option maxRecDepth 20000 in
theorem gL_place_X1_place : GoodIn wsL_place (wsV RL 57 RX1 yX1_place wsX1_place) := goodIn_app (goodIn_of _ (by decide +kernel)) ggL_place_X1_place
theorem dL_place_0 : decode cL_place 0 = .ok (.aload 5, 2) := by decide +kernel
theorem dL_place_2 : decode cL_place 2 = .ok (.iconst 0, 1) := by decide +kernel
theorem dL_place_3 : decode cL_place 3 = .ok (.aload_n 0, 1) := by decide +kernel
theorem dL_place_4 : decode cL_place 4 = .ok (.iload_n 1, 1) := by decide +kernel
theorem dL_place_5 : decode cL_place 5 = .ok (.iload_n 2, 1) := by decide +kernel
theorem dL_place_6 : decode cL_place 6 = .ok (.iload_n 3, 1) := by decide +kernel
theorem dL_place_7 : decode cL_place 7 = .ok (.iload 4, 2) := by decide +kernel
theorem dL_place_9 : decode cL_place 9 = .ok (.invokevirtual 57, 3) := by decide +kernel
theorem dL_place_12 : decode cL_place 12 = .ok (.i2l, 1) := by decide +kernel
theorem dL_place_13 : decode cL_place 13 = .ok (.lastore, 1) := by decide +kernel
theorem dL_place_14 : decode cL_place 14 = .ok (.goto 7, 3) := by decide +kernel
theorem dL_place_17 : decode cL_place 17 = .ok (.astore 6, 2) := by decide +kernel
theorem dL_place_19 : decode cL_place 19 = .ok (.iconst 1, 1) := by decide +kernel
theorem dL_place_20 : decode cL_place 20 = .ok (.ireturn, 1) := by decide +kernel
theorem dL_place_21 : decode cL_place 21 = .ok (.iconst 0, 1) := by decide +kernel
theorem dL_place_22 : decode cL_place 22 = .ok (.ireturn, 1) := by decide +kernel
set_option maxRecDepth 20000 in
theorem ggL_best_X1_best : GoodIn wsL_best wsX1_best := goodIn_ca (goodIn_ca (goodIn_r _ [7, 8, 9, 10, 6, 11, 12, 13, 14, 15, 16, 17, 18, 19, 20, 21, 22, 23, 24, 25, 26, 27, 28, 29, 30, 31, 32, 33, 34, 35, 36, 37, 38, 39, 40, 41, 42, 43, 44, 45, 46, 47, 48] (by decide +kernel) (by decide +kernel)) (goodIn_sub (fun _ h => List.mem_cons_of_mem _ (List.mem_append_left _ (List.mem_append_right _ h))) (by decide +kernel))) (goodIn_sub (fun _ h => List.mem_cons_of_mem _ (List.mem_append_right _ h)) (by decide +kernel))
set_option maxRecDepth 20000 in
theorem gL_best_X1_best : GoodIn wsL_best (wsV RL 61 RX1 yX1_best wsX1_best) := goodIn_app (goodIn_of _ (by decide +kernel)) ggL_best_X1_best
theorem dL_best_0 : decode cL_best 0 = .ok (.aload 4, 2) := by decide +kernel
theorem dL_best_2 : decode cL_best 2 = .ok (.iconst 0, 1) := by decide +kernel
theorem dL_best_3 : decode cL_best 3 = .ok (.aload_n 0, 1) := by decide +kernel
theorem dL_best_4 : decode cL_best 4 = .ok (.iload_n 1, 1) := by decide +kernel
theorem dL_best_5 : decode cL_best 5 = .ok (.iload_n 2, 1) := by decide +kernel
theorem dL_best_6 : decode cL_best 6 = .ok (.iload_n 3, 1) := by decide +kernel
theorem dL_best_7 : decode cL_best 7 = .ok (.invokevirtual 61, 3) := by decide +kernel
theorem dL_best_10 : decode cL_best 10 = .ok (.i2l, 1) := by decide +kernel
theorem dL_best_11 : decode cL_best 11 = .ok (.lastore, 1) := by decide +kernel
theorem dL_best_12 : decode cL_best 12 = .ok (.goto 11, 3) := by decide +kernel
theorem dL_best_15 : decode cL_best 15 = .ok (.astore 5, 2) := by decide +kernel
theorem dL_best_17 : decode cL_best 17 = .ok (.iconst 1, 1) := by decide +kernel
theorem dL_best_18 : decode cL_best 18 = .ok (.ireturn, 1) := by decide +kernel
theorem dL_best_19 : decode cL_best 19 = .ok (.astore 5, 2) := by decide +kernel
theorem dL_best_21 : decode cL_best 21 = .ok (.iconst 2, 1) := by decide +kernel
theorem dL_best_22 : decode cL_best 22 = .ok (.ireturn, 1) := by decide +kernel
theorem dL_best_23 : decode cL_best 23 = .ok (.iconst 0, 1) := by decide +kernel
theorem dL_best_24 : decode cL_best 24 = .ok (.ireturn, 1) := by decide +kernel
set_option maxRecDepth 20000 in
theorem ggL_against_X1_against : GoodIn wsL_against wsX1_against := goodIn_ca (goodIn_ca (goodIn_r _ [7, 8, 9, 10, 6, 11, 12, 13, 14, 15, 16, 17, 18, 19, 20, 21, 22, 23, 24, 25, 26, 27, 28, 29, 30, 31, 32, 33, 34, 35, 36, 37, 38, 39, 40, 41, 42, 43, 44, 45, 46, 47, 48, 49] (by decide +kernel) (by decide +kernel)) (goodIn_sub (fun _ h => List.mem_cons_of_mem _ (List.mem_append_left _ (List.mem_append_right _ h))) (by decide +kernel))) (goodIn_sub (fun _ h => List.mem_cons_of_mem _ (List.mem_append_right _ h)) (by decide +kernel))
set_option maxRecDepth 20000 in
theorem gL_against_X1_against : GoodIn wsL_against (wsV RL 64 RX1 yX1_against wsX1_against) := goodIn_app (goodIn_of _ (by decide +kernel)) ggL_against_X1_against
theorem dL_against_0 : decode cL_against 0 = .ok (.aload 5, 2) := by decide +kernel
theorem dL_against_2 : decode cL_against 2 = .ok (.iconst 0, 1) := by decide +kernel
theorem dL_against_3 : decode cL_against 3 = .ok (.aload_n 0, 1) := by decide +kernel
theorem dL_against_4 : decode cL_against 4 = .ok (.iload_n 1, 1) := by decide +kernel
theorem dL_against_5 : decode cL_against 5 = .ok (.iload_n 2, 1) := by decide +kernel
theorem dL_against_6 : decode cL_against 6 = .ok (.iload_n 3, 1) := by decide +kernel
theorem dL_against_7 : decode cL_against 7 = .ok (.iload 4, 2) := by decide +kernel
theorem dL_against_9 : decode cL_against 9 = .ok (.invokevirtual 64, 3) := by decide +kernel
theorem dL_against_12 : decode cL_against 12 = .ok (.i2l, 1) := by decide +kernel
theorem dL_against_13 : decode cL_against 13 = .ok (.lastore, 1) := by decide +kernel
theorem dL_against_14 : decode cL_against 14 = .ok (.goto 11, 3) := by decide +kernel
theorem dL_against_17 : decode cL_against 17 = .ok (.astore 6, 2) := by decide +kernel
theorem dL_against_19 : decode cL_against 19 = .ok (.iconst 1, 1) := by decide +kernel
theorem dL_against_20 : decode cL_against 20 = .ok (.ireturn, 1) := by decide +kernel
theorem dL_against_21 : decode cL_against 21 = .ok (.astore 6, 2) := by decide +kernel
theorem dL_against_23 : decode cL_against 23 = .ok (.iconst 2, 1) := by decide +kernel
theorem dL_against_24 : decode cL_against 24 = .ok (.ireturn, 1) := by decide +kernel
theorem dL_against_25 : decode cL_against 25 = .ok (.iconst 0, 1) := by decide +kernel
theorem dL_against_26 : decode cL_against 26 = .ok (.ireturn, 1) := by decide +kernel
set_option maxRecDepth 20000 in
theorem ggL_told_X1_told : GoodIn wsL_told wsX1_told := goodIn_ca (goodIn_ca (goodIn_r _ [7, 8, 9, 10, 11, 12, 6, 13, 14, 15, 16, 17, 18, 19, 20, 21, 22, 23, 24, 25, 26, 27, 28, 29, 30, 31, 32, 33, 34, 35, 36, 37, 38, 39, 40, 41, 42, 43, 44, 45, 46, 47, 48, 49, 50, 51, 52, 53, 54, 55] (by decide +kernel) (by decide +kernel)) (goodIn_sub (fun _ h => List.mem_cons_of_mem _ (List.mem_append_left _ (List.mem_append_right _ h))) (by decide +kernel))) (goodIn_sub (fun _ h => List.mem_cons_of_mem _ (List.mem_append_right _ h)) (by decide +kernel))
set_option maxRecDepth 20000 in
theorem gL_told_X1_told : GoodIn wsL_told (wsV RL 67 RX1 yX1_told wsX1_told) := goodIn_app (goodIn_of _ (by decide +kernel)) ggL_told_X1_told
theorem dL_told_0 : decode cL_told 0 = .ok (.aload 4, 2) := by decide +kernel
theorem dL_told_2 : decode cL_told 2 = .ok (.iconst 0, 1) := by decide +kernel
theorem dL_told_3 : decode cL_told 3 = .ok (.aload_n 0, 1) := by decide +kernel
theorem dL_told_4 : decode cL_told 4 = .ok (.iload_n 1, 1) := by decide +kernel
theorem dL_told_5 : decode cL_told 5 = .ok (.iload_n 2, 1) := by decide +kernel
theorem dL_told_6 : decode cL_told 6 = .ok (.iload_n 3, 1) := by decide +kernel
theorem dL_told_7 : decode cL_told 7 = .ok (.invokevirtual 67, 3) := by decide +kernel
theorem dL_told_10 : decode cL_told 10 = .ok (.lastore, 1) := by decide +kernel
theorem dL_told_11 : decode cL_told 11 = .ok (.goto 11, 3) := by decide +kernel
theorem dL_told_14 : decode cL_told 14 = .ok (.astore 5, 2) := by decide +kernel
theorem dL_told_16 : decode cL_told 16 = .ok (.iconst 1, 1) := by decide +kernel
theorem dL_told_17 : decode cL_told 17 = .ok (.ireturn, 1) := by decide +kernel
theorem dL_told_18 : decode cL_told 18 = .ok (.astore 5, 2) := by decide +kernel
theorem dL_told_20 : decode cL_told 20 = .ok (.iconst 2, 1) := by decide +kernel
theorem dL_told_21 : decode cL_told 21 = .ok (.ireturn, 1) := by decide +kernel
theorem dL_told_22 : decode cL_told 22 = .ok (.iconst 0, 1) := by decide +kernel
theorem dL_told_23 : decode cL_told 23 = .ok (.ireturn, 1) := by decide +kernel
set_option maxRecDepth 20000 in
theorem ggL_sum_X1_sum : GoodIn wsL_sum wsX1_sum := goodIn_ca (goodIn_r _ [6, 7, 8, 9, 10, 5, 11, 12, 13, 14, 15, 16, 17, 18, 19, 20, 21, 22, 23, 24, 25, 26, 27, 28, 29, 30, 31, 32, 33, 34, 35, 36, 37, 38, 39, 40, 41, 42, 43, 44, 45, 46, 47, 48, 49, 50, 51, 52, 53, 54, 55, 56, 57, 58, 59, 60, 61, 62, 63, 64, 65, 66, 67, 68, 69, 70, 71, 72, 73, 74, 75, 76, 77, 78, 79, 80, 81, 82, 83] (by decide +kernel) (by decide +kernel)) (goodIn_sub (fun _ h => List.mem_cons_of_mem _ (List.mem_append_right _ h)) (by decide +kernel))
set_option maxRecDepth 20000 in
theorem gL_sum_X1_sum : GoodIn wsL_sum (wsV RL 71 RX1 yX1_sum wsX1_sum) := goodIn_app (goodIn_of _ (by decide +kernel)) ggL_sum_X1_sum
theorem dL_sum_0 : decode cL_sum 0 = .ok (.aload_n 3, 1) := by decide +kernel
theorem dL_sum_1 : decode cL_sum 1 = .ok (.iconst 0, 1) := by decide +kernel
theorem dL_sum_2 : decode cL_sum 2 = .ok (.aload_n 0, 1) := by decide +kernel
theorem dL_sum_3 : decode cL_sum 3 = .ok (.iload_n 1, 1) := by decide +kernel
theorem dL_sum_4 : decode cL_sum 4 = .ok (.iload_n 2, 1) := by decide +kernel
theorem dL_sum_5 : decode cL_sum 5 = .ok (.invokevirtual 71, 3) := by decide +kernel
theorem dL_sum_8 : decode cL_sum 8 = .ok (.lastore, 1) := by decide +kernel
theorem dL_sum_9 : decode cL_sum 9 = .ok (.goto 7, 3) := by decide +kernel
theorem dL_sum_12 : decode cL_sum 12 = .ok (.astore 4, 2) := by decide +kernel
theorem dL_sum_14 : decode cL_sum 14 = .ok (.iconst 1, 1) := by decide +kernel
theorem dL_sum_15 : decode cL_sum 15 = .ok (.ireturn, 1) := by decide +kernel
theorem dL_sum_16 : decode cL_sum 16 = .ok (.iconst 0, 1) := by decide +kernel
theorem dL_sum_17 : decode cL_sum 17 = .ok (.ireturn, 1) := by decide +kernel
set_option maxRecDepth 20000 in
theorem ggL_count_X1_count : GoodIn wsL_count wsX1_count := goodIn_ca (goodIn_r _ [6, 7, 8, 9, 10, 11, 5, 12, 13, 14, 15, 16, 17, 18, 19, 20, 21, 22, 23, 24, 25, 26, 27, 28, 29, 30, 31, 32, 33, 34, 35, 36, 37, 38, 39, 40, 41, 42, 43] (by decide +kernel) (by decide +kernel)) (goodIn_sub (fun _ h => List.mem_cons_of_mem _ (List.mem_append_right _ h)) (by decide +kernel))
set_option maxRecDepth 20000 in
theorem gL_count_X1_count : GoodIn wsL_count (wsV RL 75 RX1 yX1_count wsX1_count) := goodIn_app (goodIn_of _ (by decide +kernel)) ggL_count_X1_count
theorem dL_count_0 : decode cL_count 0 = .ok (.aload_n 2, 1) := by decide +kernel
theorem dL_count_1 : decode cL_count 1 = .ok (.iconst 0, 1) := by decide +kernel
theorem dL_count_2 : decode cL_count 2 = .ok (.aload_n 0, 1) := by decide +kernel
theorem dL_count_3 : decode cL_count 3 = .ok (.iload_n 1, 1) := by decide +kernel
theorem dL_count_4 : decode cL_count 4 = .ok (.invokevirtual 75, 3) := by decide +kernel
theorem dL_count_7 : decode cL_count 7 = .ok (.i2l, 1) := by decide +kernel
theorem dL_count_8 : decode cL_count 8 = .ok (.lastore, 1) := by decide +kernel
theorem dL_count_9 : decode cL_count 9 = .ok (.goto 6, 3) := by decide +kernel
theorem dL_count_12 : decode cL_count 12 = .ok (.astore_n 3, 1) := by decide +kernel
theorem dL_count_13 : decode cL_count 13 = .ok (.iconst 1, 1) := by decide +kernel
theorem dL_count_14 : decode cL_count 14 = .ok (.ireturn, 1) := by decide +kernel
theorem dL_count_15 : decode cL_count 15 = .ok (.iconst 0, 1) := by decide +kernel
theorem dL_count_16 : decode cL_count 16 = .ok (.ireturn, 1) := by decide +kernel
set_option maxRecDepth 20000 in
theorem ggL_law_X1_init : GoodIn wsL_law wsX1_init := goodIn_r _ [11, 12, 13, 14, 15, 16, 17, 18, 19, 20, 21, 22, 23, 24, 25, 26, 27, 28, 29, 30, 31, 32, 33, 34, 35, 36, 37, 38, 39, 40, 41, 42, 43, 6, 44, 475, 476, 477, 478, 465, 466, 467, 468, 479] (by decide +kernel) (by decide +kernel)
set_option maxRecDepth 20000 in
theorem gL_law_X1_init : GoodIn wsL_law (wsX1_init) := ggL_law_X1_init
set_option maxRecDepth 20000 in
theorem ggL_law_X2_init : GoodIn wsL_law wsX2_init := goodIn_r _ [47, 48, 13, 14, 29, 49, 31, 50, 33, 51, 52, 469, 470, 471, 472, 473, 474] (by decide +kernel) (by decide +kernel)
set_option maxRecDepth 20000 in
theorem gL_law_X2_init : GoodIn wsL_law (wsX2_init) := ggL_law_X2_init
set_option maxRecDepth 20000 in
theorem ggL_law_L_entry : GoodIn wsL_law wsL_entry := goodIn_ca (goodIn_r _ [56, 57, 58, 59, 60, 2, 61, 62, 63, 24, 465, 466, 467, 468] (by decide +kernel) (by decide +kernel)) (goodIn_sub (fun _ h => List.mem_append_left _ (List.mem_append_left _ (List.mem_append_right _ h))) (by decide +kernel))
set_option maxRecDepth 20000 in
theorem gL_law_L_entry : GoodIn wsL_law (va_wsS RL 83 yL_entry wsL_entry) := goodIn_app (goodIn_of _ (by decide +kernel)) ggL_law_L_entry
set_option maxRecDepth 20000 in
theorem ggL_law_X2_entry : GoodIn wsL_law wsX2_entry := goodIn_r _ [67, 68, 69, 469, 470, 471, 472, 473, 474] (by decide +kernel) (by decide +kernel)
set_option maxRecDepth 20000 in
theorem gL_law_X2_entry : GoodIn wsL_law (wsV RL 88 RX2 yX2_entry wsX2_entry) := goodIn_app (goodIn_of _ (by decide +kernel)) ggL_law_X2_entry
set_option maxRecDepth 20000 in
theorem ggL_law_X2_thrown : GoodIn wsL_law wsX2_thrown := goodIn_r _ [73, 69, 469, 470, 471, 472, 473, 474] (by decide +kernel) (by decide +kernel)
set_option maxRecDepth 20000 in
theorem gL_law_X2_thrown : GoodIn wsL_law (wsV RL 89 RX2 yX2_thrown wsX2_thrown) := goodIn_app (goodIn_of _ (by decide +kernel)) ggL_law_X2_thrown
set_option maxRecDepth 20000 in
theorem ggL_law_L_mark : GoodIn wsL_law wsL_mark := goodIn_ca (goodIn_r _ [76, 77, 78, 79, 80, 2, 81, 18, 82, 83, 84, 85, 86, 87, 24, 88, 89, 90, 91, 92, 93, 94, 95, 96, 17, 97, 32, 30, 465, 466, 467, 468, 475, 476, 477, 478] (by decide +kernel) (by decide +kernel)) (goodIn_sub (fun _ h => List.mem_append_left _ (List.mem_append_right _ h)) (by decide +kernel))
set_option maxRecDepth 20000 in
theorem gL_law_L_mark : GoodIn wsL_law (va_wsS RL 94 yL_mark wsL_mark) := goodIn_app (goodIn_of _ (by decide +kernel)) ggL_law_L_mark
set_option maxRecDepth 20000 in
theorem ggL_law_X2_mark : GoodIn wsL_law wsX2_mark := goodIn_r _ [101, 69, 102, 103, 104, 5, 105, 68, 106, 107, 108, 109, 110, 111, 112, 113, 114, 115, 116, 117, 118, 119, 120, 121, 122, 123, 49, 50, 469, 470, 471, 472, 473, 474] (by decide +kernel) (by decide +kernel)
set_option maxRecDepth 20000 in
theorem gL_law_X2_mark : GoodIn wsL_law (wsV RL 97 RX2 yX2_mark wsX2_mark) := goodIn_app (goodIn_of _ (by decide +kernel)) ggL_law_X2_mark
set_option maxRecDepth 20000 in
theorem ggL_law_L_points : GoodIn wsL_law wsL_points := goodIn_ca (goodIn_r _ [126, 77, 127, 128, 129, 2, 130, 19, 82, 83, 84, 85, 86, 87, 24, 88, 89, 90, 91, 92, 93, 131, 132, 133, 17, 134, 135, 95, 96, 97, 32, 30, 136, 137, 138, 139, 465, 466, 467, 468, 475, 476, 477, 478] (by decide +kernel) (by decide +kernel)) (goodIn_sub (fun _ h => List.mem_append_left _ (List.mem_append_right _ h)) (by decide +kernel))
set_option maxRecDepth 20000 in
theorem gL_law_L_points : GoodIn wsL_law (va_wsS RL 99 yL_points wsL_points) := goodIn_app (goodIn_of _ (by decide +kernel)) ggL_law_L_points
set_option maxRecDepth 20000 in
theorem ggL_law_X2_points : GoodIn wsL_law wsX2_points := goodIn_r _ [143, 69, 102, 103, 104, 5, 105, 68, 106, 107, 108, 109, 110, 111, 112, 113, 114, 115, 116, 117, 118, 119, 120, 121, 122, 123, 49, 50, 469, 470, 471, 472, 473, 474] (by decide +kernel) (by decide +kernel)
set_option maxRecDepth 20000 in
theorem gL_law_X2_points : GoodIn wsL_law (wsV RL 102 RX2 yX2_points wsX2_points) := goodIn_app (goodIn_of _ (by decide +kernel)) ggL_law_X2_points
set_option maxRecDepth 20000 in
theorem ggL_law_L_bar : GoodIn wsL_law wsL_bar := goodIn_ca (goodIn_r _ [146, 77, 147, 148, 149, 2, 150, 18, 88, 89, 90, 86, 87, 91, 92, 93, 94, 95, 96, 17, 97, 32, 30, 465, 466, 467, 468, 475, 476, 477, 478] (by decide +kernel) (by decide +kernel)) (goodIn_sub (fun _ h => List.mem_append_left _ (List.mem_append_right _ h)) (by decide +kernel))
set_option maxRecDepth 20000 in
theorem gL_law_L_bar : GoodIn wsL_law (va_wsS RL 103 yL_bar wsL_bar) := goodIn_app (goodIn_of _ (by decide +kernel)) ggL_law_L_bar
set_option maxRecDepth 20000 in
theorem ggL_law_X2_bar : GoodIn wsL_law wsX2_bar := goodIn_r _ [154, 69, 113, 114, 115, 5, 116, 106, 107, 108, 109, 110, 111, 112, 155, 156, 157, 120, 121, 122, 123, 49, 50, 469, 470, 471, 472, 473, 474] (by decide +kernel) (by decide +kernel)
set_option maxRecDepth 20000 in
theorem gL_law_X2_bar : GoodIn wsL_law (wsV RL 106 RX2 yX2_bar wsX2_bar) := goodIn_app (goodIn_of _ (by decide +kernel)) ggL_law_X2_bar
set_option maxRecDepth 20000 in
theorem ggL_law_L_line : GoodIn wsL_law wsL_line := goodIn_ca (goodIn_r _ [160, 77, 161, 162, 163, 2, 164, 19, 88, 89, 90, 86, 87, 91, 92, 93, 131, 132, 133, 17, 134, 135, 95, 96, 97, 32, 30, 136, 137, 138, 139, 465, 466, 467, 468, 475, 476, 477, 478] (by decide +kernel) (by decide +kernel)) (goodIn_sub (fun _ h => List.mem_append_left _ (List.mem_append_right _ h)) (by decide +kernel))
set_option maxRecDepth 20000 in
theorem gL_law_L_line : GoodIn wsL_law (va_wsS RL 107 yL_line wsL_line) := goodIn_app (goodIn_of _ (by decide +kernel)) ggL_law_L_line
set_option maxRecDepth 20000 in
theorem ggL_law_X2_line : GoodIn wsL_law wsX2_line := goodIn_r _ [168, 69, 113, 114, 115, 5, 116, 106, 107, 108, 109, 110, 111, 112, 155, 156, 157, 120, 121, 122, 123, 49, 50, 469, 470, 471, 472, 473, 474] (by decide +kernel) (by decide +kernel)
set_option maxRecDepth 20000 in
theorem gL_law_X2_line : GoodIn wsL_law (wsV RL 110 RX2 yX2_line wsX2_line) := goodIn_app (goodIn_of _ (by decide +kernel)) ggL_law_X2_line
set_option maxRecDepth 20000 in
theorem ggL_law_L_clear : GoodIn wsL_law wsL_clear := goodIn_ca (goodIn_r _ [171, 77, 172, 173, 174, 2, 175, 176, 177, 178, 179, 82, 83, 84, 85, 86, 87, 24, 88, 89, 90, 180, 181, 182, 183, 18, 19, 184, 185, 186, 91, 92, 93, 187, 137, 138, 17, 139, 32, 465, 466, 467, 468, 475, 476, 477, 478] (by decide +kernel) (by decide +kernel)) (goodIn_sub (fun _ h => List.mem_append_left _ (List.mem_append_right _ h)) (by decide +kernel))
set_option maxRecDepth 20000 in
theorem gL_law_L_clear : GoodIn wsL_law (va_wsS RL 111 yL_clear wsL_clear) := goodIn_app (goodIn_of _ (by decide +kernel)) ggL_law_L_clear
set_option maxRecDepth 20000 in
theorem ggL_law_X2_clear : GoodIn wsL_law wsX2_clear := goodIn_r _ [191, 50, 192, 193, 194, 5, 195, 68, 69, 106, 107, 108, 155, 156, 157, 117, 118, 119, 469, 470, 471, 472, 473, 474] (by decide +kernel) (by decide +kernel)
set_option maxRecDepth 20000 in
theorem gL_law_X2_clear : GoodIn wsL_law (wsV RL 114 RX2 yX2_clear wsX2_clear) := goodIn_app (goodIn_of _ (by decide +kernel)) ggL_law_X2_clear
set_option maxRecDepth 20000 in
theorem ggL_law_L_holds : GoodIn wsL_law wsL_holds := goodIn_ca (goodIn_ca (goodIn_r _ [198, 77, 199, 200, 201, 202, 2, 203, 82, 83, 84, 85, 86, 87, 24, 88, 89, 90, 204, 205, 206, 207, 208, 180, 181, 182, 183, 18, 19, 209, 210, 211, 17, 212, 92, 93, 213, 214, 215, 216, 32, 30, 217, 218, 219, 465, 466, 467, 468, 475, 476, 477, 478] (by decide +kernel) (by decide +kernel)) (goodIn_sub (fun _ h => List.mem_append_left _ (List.mem_append_right _ h)) (by decide +kernel))) (goodIn_sub (fun _ h => List.mem_append_right _ h) (by decide +kernel))
set_option maxRecDepth 20000 in
theorem gL_law_L_holds : GoodIn wsL_law (va_wsS RL 115 yL_holds wsL_holds) := goodIn_app (goodIn_of _ (by decide +kernel)) ggL_law_L_holds
set_option maxRecDepth 20000 in
theorem ggL_law_X2_holds : GoodIn wsL_law wsX2_holds := goodIn_r _ [223, 69, 102, 103, 104, 5, 105, 68, 106, 107, 108, 109, 110, 111, 112, 113, 114, 115, 116, 224, 225, 226, 227, 228, 229, 230, 231, 117, 118, 119, 155, 156, 157, 232, 233, 234, 235, 50, 49, 469, 470, 471, 472, 473, 474] (by decide +kernel) (by decide +kernel)
set_option maxRecDepth 20000 in
theorem gL_law_X2_holds : GoodIn wsL_law (wsV RL 118 RX2 yX2_holds wsX2_holds) := goodIn_app (goodIn_of _ (by decide +kernel)) ggL_law_X2_holds
set_option maxRecDepth 20000 in
theorem ggL_law_L_tally : GoodIn wsL_law wsL_tally := goodIn_ca (goodIn_ca (goodIn_r _ [238, 77, 199, 239, 240, 241, 2, 242, 82, 83, 84, 85, 86, 87, 24, 204, 205, 206, 207, 208, 180, 181, 182, 183, 18, 19, 243, 244, 245, 17, 246, 247, 210, 211, 212, 92, 93, 213, 214, 215, 216, 32, 30, 217, 218, 219, 465, 466, 467, 468, 475, 476, 477, 478] (by decide +kernel) (by decide +kernel)) (goodIn_sub (fun _ h => List.mem_append_left _ (List.mem_append_right _ h)) (by decide +kernel))) (goodIn_sub (fun _ h => List.mem_append_right _ h) (by decide +kernel))
set_option maxRecDepth 20000 in
theorem gL_law_L_tally : GoodIn wsL_law (va_wsS RL 119 yL_tally wsL_tally) := goodIn_app (goodIn_of _ (by decide +kernel)) ggL_law_L_tally
set_option maxRecDepth 20000 in
theorem ggL_law_X2_tally : GoodIn wsL_law wsX2_tally := goodIn_r _ [251, 69, 102, 103, 104, 5, 105, 68, 106, 107, 108, 109, 110, 111, 112, 224, 225, 226, 227, 228, 229, 230, 231, 117, 118, 119, 155, 156, 157, 232, 233, 234, 235, 50, 49, 469, 470, 471, 472, 473, 474] (by decide +kernel) (by decide +kernel)
set_option maxRecDepth 20000 in
theorem gL_law_X2_tally : GoodIn wsL_law (wsV RL 121 RX2 yX2_tally wsX2_tally) := goodIn_app (goodIn_of _ (by decide +kernel)) ggL_law_X2_tally
set_option maxRecDepth 20000 in
theorem ggL_law_L_run : GoodIn wsL_law wsL_run := goodIn_ca (goodIn_ca (goodIn_r _ [254, 77, 199, 255, 256, 257, 2, 258, 82, 83, 84, 85, 86, 87, 24, 88, 89, 90, 204, 205, 206, 207, 208, 180, 181, 182, 183, 18, 19, 259, 260, 261, 17, 262, 247, 210, 211, 212, 92, 93, 213, 214, 215, 216, 32, 30, 217, 218, 219, 465, 466, 467, 468, 475, 476, 477, 478] (by decide +kernel) (by decide +kernel)) (goodIn_sub (fun _ h => List.mem_append_left _ (List.mem_append_right _ h)) (by decide +kernel))) (goodIn_sub (fun _ h => List.mem_append_right _ h) (by decide +kernel))
set_option maxRecDepth 20000 in
theorem gL_law_L_run : GoodIn wsL_law (va_wsS RL 122 yL_run wsL_run) := goodIn_app (goodIn_of _ (by decide +kernel)) ggL_law_L_run
set_option maxRecDepth 20000 in
theorem ggL_law_X2_run : GoodIn wsL_law wsX2_run := goodIn_r _ [266, 69, 102, 103, 104, 5, 105, 68, 106, 107, 108, 109, 110, 111, 112, 224, 225, 226, 227, 228, 229, 230, 231, 117, 118, 119, 155, 156, 157, 232, 233, 234, 235, 50, 49, 469, 470, 471, 472, 473, 474] (by decide +kernel) (by decide +kernel)
set_option maxRecDepth 20000 in
theorem gL_law_X2_run : GoodIn wsL_law (wsV RL 124 RX2 yX2_run wsX2_run) := goodIn_app (goodIn_of _ (by decide +kernel)) ggL_law_X2_run
set_option maxRecDepth 20000 in
theorem ggL_law_L_keep : GoodIn wsL_law wsL_keep := goodIn_ca (goodIn_ca (goodIn_r _ [269, 77, 199, 270, 271, 272, 2, 273, 82, 83, 84, 85, 86, 87, 24, 88, 89, 90, 204, 205, 206, 207, 208, 180, 181, 182, 183, 18, 19, 274, 275, 276, 17, 277, 34, 247, 210, 211, 212, 92, 93, 213, 214, 215, 216, 32, 30, 217, 218, 219, 465, 466, 467, 468, 475, 476, 477, 478] (by decide +kernel) (by decide +kernel)) (goodIn_sub (fun _ h => List.mem_append_left _ (List.mem_append_right _ h)) (by decide +kernel))) (goodIn_sub (fun _ h => List.mem_append_right _ h) (by decide +kernel))
set_option maxRecDepth 20000 in
theorem gL_law_L_keep : GoodIn wsL_law (va_wsS RL 125 yL_keep wsL_keep) := goodIn_app (goodIn_of _ (by decide +kernel)) ggL_law_L_keep
set_option maxRecDepth 20000 in
theorem ggL_law_X2_keep : GoodIn wsL_law wsX2_keep := goodIn_r _ [281, 69, 51, 102, 103, 104, 5, 105, 68, 106, 107, 108, 109, 110, 111, 112, 113, 114, 115, 116, 224, 225, 226, 227, 228, 229, 230, 231, 117, 118, 119, 155, 156, 157, 232, 233, 234, 235, 50, 49, 469, 470, 471, 472, 473, 474] (by decide +kernel) (by decide +kernel)
set_option maxRecDepth 20000 in
theorem gL_law_X2_keep : GoodIn wsL_law (wsV RL 127 RX2 yX2_keep wsX2_keep) := goodIn_app (goodIn_of _ (by decide +kernel)) ggL_law_X2_keep
set_option maxRecDepth 20000 in
theorem ggL_law_L_kept : GoodIn wsL_law wsL_kept := goodIn_ca (goodIn_r _ [284, 77, 285, 286, 287, 2, 288, 82, 83, 84, 85, 86, 87, 24, 88, 89, 90, 180, 181, 182, 183, 18, 19, 91, 92, 93, 289, 290, 291, 17, 292, 34, 465, 466, 467, 468, 475, 476, 477, 478] (by decide +kernel) (by decide +kernel)) (goodIn_sub (fun _ h => List.mem_append_left _ (List.mem_append_right _ h)) (by decide +kernel))
set_option maxRecDepth 20000 in
theorem gL_law_L_kept : GoodIn wsL_law (va_wsS RL 128 yL_kept wsL_kept) := goodIn_app (goodIn_of _ (by decide +kernel)) ggL_law_L_kept
set_option maxRecDepth 20000 in
theorem ggL_law_X2_kept : GoodIn wsL_law wsX2_kept := goodIn_r _ [296, 69, 51, 102, 103, 104, 5, 105, 68, 106, 107, 108, 109, 110, 111, 112, 113, 114, 115, 116, 117, 118, 119, 469, 470, 471, 472, 473, 474] (by decide +kernel) (by decide +kernel)
set_option maxRecDepth 20000 in
theorem gL_law_X2_kept : GoodIn wsL_law (wsV RL 130 RX2 yX2_kept wsX2_kept) := goodIn_app (goodIn_of _ (by decide +kernel)) ggL_law_X2_kept
set_option maxRecDepth 20000 in
theorem ggL_law_L_place : GoodIn wsL_law wsL_place := goodIn_ca (goodIn_r _ [299, 77, 300, 301, 302, 2, 303, 24, 82, 83, 84, 85, 86, 87, 88, 89, 90, 180, 181, 182, 183, 18, 19, 304, 305, 306, 17, 307, 35, 308, 309, 310, 311, 312, 313, 314, 315, 92, 93, 213, 214, 215, 216, 32, 30, 465, 466, 467, 468, 475, 476, 477, 478] (by decide +kernel) (by decide +kernel)) (goodIn_sub (fun _ h => List.mem_append_left _ (List.mem_append_right _ h)) (by decide +kernel))
set_option maxRecDepth 20000 in
theorem gL_law_L_place : GoodIn wsL_law (va_wsS RL 131 yL_place wsL_place) := goodIn_app (goodIn_of _ (by decide +kernel)) ggL_law_L_place
set_option maxRecDepth 20000 in
theorem ggL_law_X2_place : GoodIn wsL_law wsX2_place := goodIn_r _ [319, 69, 68, 52, 102, 103, 104, 5, 105, 106, 107, 108, 109, 110, 111, 112, 113, 114, 115, 116, 117, 118, 119, 232, 233, 234, 235, 50, 49, 469, 470, 471, 472, 473, 474] (by decide +kernel) (by decide +kernel)
set_option maxRecDepth 20000 in
theorem gL_law_X2_place : GoodIn wsL_law (wsV RL 134 RX2 yX2_place wsX2_place) := goodIn_app (goodIn_of _ (by decide +kernel)) ggL_law_X2_place
set_option maxRecDepth 20000 in
theorem ggL_law_L_best : GoodIn wsL_law wsL_best := goodIn_ca (goodIn_ca (goodIn_r _ [322, 77, 199, 323, 324, 325, 2, 326, 24, 88, 89, 90, 86, 87, 204, 205, 206, 207, 208, 180, 181, 182, 183, 18, 19, 327, 328, 329, 17, 330, 92, 93, 213, 214, 215, 216, 32, 30, 331, 332, 333, 465, 466, 467, 468, 475, 476, 477, 478] (by decide +kernel) (by decide +kernel)) (goodIn_sub (fun _ h => List.mem_append_left _ (List.mem_append_right _ h)) (by decide +kernel))) (goodIn_sub (fun _ h => List.mem_append_right _ h) (by decide +kernel))
set_option maxRecDepth 20000 in
theorem gL_law_L_best : GoodIn wsL_law (va_wsS RL 135 yL_best wsL_best) := goodIn_app (goodIn_of _ (by decide +kernel)) ggL_law_L_best
set_option maxRecDepth 20000 in
theorem ggL_law_X2_best : GoodIn wsL_law wsX2_best := goodIn_r _ [337, 69, 68, 113, 114, 115, 5, 116, 106, 107, 108, 109, 110, 111, 112, 117, 118, 119, 232, 233, 234, 235, 50, 49, 469, 470, 471, 472, 473, 474] (by decide +kernel) (by decide +kernel)
set_option maxRecDepth 20000 in
theorem gL_law_X2_best : GoodIn wsL_law (wsV RL 137 RX2 yX2_best wsX2_best) := goodIn_app (goodIn_of _ (by decide +kernel)) ggL_law_X2_best
set_option maxRecDepth 20000 in
theorem ggL_law_L_against : GoodIn wsL_law wsL_against := goodIn_ca (goodIn_ca (goodIn_r _ [340, 77, 199, 341, 342, 343, 2, 344, 82, 83, 84, 85, 86, 87, 24, 204, 205, 206, 207, 208, 180, 181, 182, 183, 18, 19, 345, 346, 347, 17, 348, 92, 93, 213, 214, 215, 216, 32, 30, 349, 350, 351, 465, 466, 467, 468, 475, 476, 477, 478] (by decide +kernel) (by decide +kernel)) (goodIn_sub (fun _ h => List.mem_append_left _ (List.mem_append_right _ h)) (by decide +kernel))) (goodIn_sub (fun _ h => List.mem_append_right _ h) (by decide +kernel))
set_option maxRecDepth 20000 in
theorem gL_law_L_against : GoodIn wsL_law (va_wsS RL 138 yL_against wsL_against) := goodIn_app (goodIn_of _ (by decide +kernel)) ggL_law_L_against
set_option maxRecDepth 20000 in
theorem ggL_law_X2_against : GoodIn wsL_law wsX2_against := goodIn_r _ [355, 69, 102, 103, 104, 5, 105, 68, 106, 107, 108, 109, 110, 111, 112, 117, 118, 119, 232, 233, 234, 235, 50, 49, 469, 470, 471, 472, 473, 474] (by decide +kernel) (by decide +kernel)
set_option maxRecDepth 20000 in
theorem gL_law_X2_against : GoodIn wsL_law (wsV RL 140 RX2 yX2_against wsX2_against) := goodIn_app (goodIn_of _ (by decide +kernel)) ggL_law_X2_against
set_option maxRecDepth 20000 in
theorem ggL_law_L_told : GoodIn wsL_law wsL_told := goodIn_ca (goodIn_ca (goodIn_r _ [358, 77, 57, 359, 360, 361, 2, 362, 62, 63, 176, 177, 178, 179, 82, 83, 84, 85, 86, 87, 24, 88, 89, 90, 184, 185, 186, 91, 92, 93, 180, 181, 182, 183, 18, 19, 363, 364, 365, 17, 366, 32, 367, 368, 369, 370, 30, 371, 465, 466, 467, 468, 475, 476, 477, 478] (by decide +kernel) (by decide +kernel)) (goodIn_sub (fun _ h => List.mem_append_left _ (List.mem_append_left _ (List.mem_append_right _ h))) (by decide +kernel))) (goodIn_sub (fun _ h => List.mem_append_left _ (List.mem_append_right _ h)) (by decide +kernel))
set_option maxRecDepth 20000 in
theorem gL_law_L_told : GoodIn wsL_law (va_wsS RL 141 yL_told wsL_told) := goodIn_app (goodIn_of _ (by decide +kernel)) ggL_law_L_told
set_option maxRecDepth 20000 in
theorem ggL_law_X2_told : GoodIn wsL_law wsX2_told := goodIn_r _ [375, 50, 69, 192, 193, 194, 5, 195, 68, 106, 107, 108, 155, 156, 157, 117, 118, 119, 376, 377, 378, 379, 49, 380, 469, 470, 471, 472, 473, 474] (by decide +kernel) (by decide +kernel)
set_option maxRecDepth 20000 in
theorem gL_law_X2_told : GoodIn wsL_law (wsV RL 143 RX2 yX2_told wsX2_told) := goodIn_app (goodIn_of _ (by decide +kernel)) ggL_law_X2_told
set_option maxRecDepth 20000 in
theorem ggL_law_L_sum : GoodIn wsL_law wsL_sum := goodIn_ca (goodIn_r _ [383, 77, 384, 385, 386, 2, 387, 23, 82, 83, 84, 85, 86, 87, 24, 180, 181, 182, 183, 18, 19, 388, 389, 390, 17, 391, 32, 30, 392, 393, 394, 22, 395, 44, 396, 397, 38, 398, 92, 93, 399, 400, 401, 402, 403, 404, 405, 406, 407, 408, 409, 410, 411, 412, 413, 414, 415, 416, 417, 418, 419, 420, 421, 422, 423, 424, 425, 426, 427, 428, 429, 430, 431, 432, 433, 465, 466, 467, 468, 475, 476, 477, 478, 479] (by decide +kernel) (by decide +kernel)) (goodIn_sub (fun _ h => List.mem_append_left _ (List.mem_append_right _ h)) (by decide +kernel))
set_option maxRecDepth 20000 in
theorem gL_law_L_sum : GoodIn wsL_law (va_wsS RL 144 yL_sum wsL_sum) := goodIn_app (goodIn_of _ (by decide +kernel)) ggL_law_L_sum
set_option maxRecDepth 20000 in
theorem ggL_law_X2_sum : GoodIn wsL_law wsX2_sum := goodIn_r _ [437, 69, 50, 102, 103, 104, 5, 105, 68, 106, 107, 108, 109, 110, 111, 112, 117, 118, 119, 376, 377, 378, 379, 49, 380, 469, 470, 471, 472, 473, 474] (by decide +kernel) (by decide +kernel)
set_option maxRecDepth 20000 in
theorem gL_law_X2_sum : GoodIn wsL_law (wsV RL 147 RX2 yX2_sum wsX2_sum) := goodIn_app (goodIn_of _ (by decide +kernel)) ggL_law_X2_sum
set_option maxRecDepth 20000 in
theorem ggL_law_L_count : GoodIn wsL_law wsL_count := goodIn_ca (goodIn_r _ [440, 199, 441, 442, 443, 2, 444, 24, 18, 19, 204, 205, 206, 207, 208, 445, 446, 447, 17, 448, 92, 93, 449, 450, 451, 452, 32, 453, 454, 455, 456, 457, 458, 459, 460, 34, 465, 466, 467, 468, 475, 476, 477, 478] (by decide +kernel) (by decide +kernel)) (goodIn_sub (fun _ h => List.mem_append_right _ h) (by decide +kernel))
set_option maxRecDepth 20000 in
theorem gL_law_L_count : GoodIn wsL_law (va_wsS RL 148 yL_count wsL_count) := goodIn_app (goodIn_of _ (by decide +kernel)) ggL_law_L_count
set_option maxRecDepth 20000 in
theorem ggL_law_X2_count : GoodIn wsL_law wsX2_count := goodIn_r _ [464, 69, 68, 50, 51, 106, 107, 5, 108, 155, 156, 157, 469, 470, 471, 472, 473, 474] (by decide +kernel) (by decide +kernel)
set_option maxRecDepth 20000 in
theorem gL_law_X2_count : GoodIn wsL_law (wsV RL 151 RX2 yX2_count wsX2_count) := goodIn_app (goodIn_of _ (by decide +kernel)) ggL_law_X2_count
