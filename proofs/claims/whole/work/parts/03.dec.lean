set_option maxRecDepth 20000 in
theorem ggX0_init_J7_fill_53178 : GoodIn wsX0_init wsJ7_fill_53178 := goodIn_r _ [14] (by decide +kernel) (by decide +kernel)
set_option maxRecDepth 20000 in
theorem gX0_init_J7_fill_53178 : GoodIn wsX0_init (va_wsS RX0 26 yJ7_fill_53178 wsJ7_fill_53178) := goodIn_app (goodIn_of _ (by decide +kernel)) ggX0_init_J7_fill_53178
theorem dX0_init_0 : decode cX0_init 0 = .ok (.aload_n 0, 1) := by decide +kernel
theorem dX0_init_1 : decode cX0_init 1 = .ok (.invokespecial 3, 3) := by decide +kernel
theorem dX0_init_4 : decode cX0_init 4 = .ok (.aload_n 0, 1) := by decide +kernel
theorem dX0_init_5 : decode cX0_init 5 = .ok (.bipush 35, 2) := by decide +kernel
theorem dX0_init_7 : decode cX0_init 7 = .ok (.newarray .double, 2) := by decide +kernel
theorem dX0_init_9 : decode cX0_init 9 = .ok (.putfield 9, 3) := by decide +kernel
theorem dX0_init_12 : decode cX0_init 12 = .ok (.aload_n 0, 1) := by decide +kernel
theorem dX0_init_13 : decode cX0_init 13 = .ok (.bipush 35, 2) := by decide +kernel
theorem dX0_init_15 : decode cX0_init 15 = .ok (.newarray .boolean, 2) := by decide +kernel
theorem dX0_init_17 : decode cX0_init 17 = .ok (.putfield 15, 3) := by decide +kernel
theorem dX0_init_20 : decode cX0_init 20 = .ok (.aload_n 0, 1) := by decide +kernel
theorem dX0_init_21 : decode cX0_init 21 = .ok (.bipush 30, 2) := by decide +kernel
theorem dX0_init_23 : decode cX0_init 23 = .ok (.newarray .int, 2) := by decide +kernel
theorem dX0_init_25 : decode cX0_init 25 = .ok (.putfield 19, 3) := by decide +kernel
theorem dX0_init_28 : decode cX0_init 28 = .ok (.aload_n 0, 1) := by decide +kernel
theorem dX0_init_29 : decode cX0_init 29 = .ok (.bipush 6, 2) := by decide +kernel
theorem dX0_init_31 : decode cX0_init 31 = .ok (.newarray .int, 2) := by decide +kernel
theorem dX0_init_33 : decode cX0_init 33 = .ok (.putfield 23, 3) := by decide +kernel
theorem dX0_init_36 : decode cX0_init 36 = .ok (.aload_n 0, 1) := by decide +kernel
theorem dX0_init_37 : decode cX0_init 37 = .ok (.getfield 19, 3) := by decide +kernel
theorem dX0_init_40 : decode cX0_init 40 = .ok (.iconst (-1), 1) := by decide +kernel
theorem dX0_init_41 : decode cX0_init 41 = .ok (.invokestatic 26, 3) := by decide +kernel
theorem dX0_init_44 : decode cX0_init 44 = .ok (.return_, 1) := by decide +kernel
theorem dX0_writeDouble_0 : decode cX0_writeDouble 0 = .ok (.aload_n 0, 1) := by decide +kernel
theorem dX0_writeDouble_1 : decode cX0_writeDouble 1 = .ok (.getfield 15, 3) := by decide +kernel
theorem dX0_writeDouble_4 : decode cX0_writeDouble 4 = .ok (.iload_n 1, 1) := by decide +kernel
theorem dX0_writeDouble_5 : decode cX0_writeDouble 5 = .ok (.dload_n 2, 1) := by decide +kernel
theorem dX0_writeDouble_6 : decode cX0_writeDouble 6 = .ok (.dload_n 2, 1) := by decide +kernel
theorem dX0_writeDouble_7 : decode cX0_writeDouble 7 = .ok (.dcmp .l, 1) := by decide +kernel
theorem dX0_writeDouble_8 : decode cX0_writeDouble 8 = .ok (.ifCond .ne 7, 3) := by decide +kernel
theorem dX0_writeDouble_11 : decode cX0_writeDouble 11 = .ok (.iconst 1, 1) := by decide +kernel
theorem dX0_writeDouble_12 : decode cX0_writeDouble 12 = .ok (.goto 4, 3) := by decide +kernel
theorem dX0_writeDouble_15 : decode cX0_writeDouble 15 = .ok (.iconst 0, 1) := by decide +kernel
theorem dX0_writeDouble_16 : decode cX0_writeDouble 16 = .ok (.bastore, 1) := by decide +kernel
theorem dX0_writeDouble_17 : decode cX0_writeDouble 17 = .ok (.aload_n 0, 1) := by decide +kernel
theorem dX0_writeDouble_18 : decode cX0_writeDouble 18 = .ok (.getfield 9, 3) := by decide +kernel
theorem dX0_writeDouble_21 : decode cX0_writeDouble 21 = .ok (.iload_n 1, 1) := by decide +kernel
theorem dX0_writeDouble_22 : decode cX0_writeDouble 22 = .ok (.dload_n 2, 1) := by decide +kernel
theorem dX0_writeDouble_23 : decode cX0_writeDouble 23 = .ok (.dload_n 2, 1) := by decide +kernel
theorem dX0_writeDouble_24 : decode cX0_writeDouble 24 = .ok (.dcmp .l, 1) := by decide +kernel
theorem dX0_writeDouble_25 : decode cX0_writeDouble 25 = .ok (.ifCond .ne 7, 3) := by decide +kernel
theorem dX0_writeDouble_28 : decode cX0_writeDouble 28 = .ok (.dload_n 2, 1) := by decide +kernel
theorem dX0_writeDouble_29 : decode cX0_writeDouble 29 = .ok (.goto 4, 3) := by decide +kernel
theorem dX0_writeDouble_32 : decode cX0_writeDouble 32 = .ok (.dconst 0, 1) := by decide +kernel
theorem dX0_writeDouble_33 : decode cX0_writeDouble 33 = .ok (.dastore, 1) := by decide +kernel
theorem dX0_writeDouble_34 : decode cX0_writeDouble 34 = .ok (.return_, 1) := by decide +kernel
set_option maxRecDepth 20000 in
theorem ggX0_writeFloat_X0_writeDouble : GoodIn wsX0_writeFloat wsX0_writeDouble := goodIn_r _ [5, 6, 7, 12, 13, 14, 15] (by decide +kernel) (by decide +kernel)
set_option maxRecDepth 20000 in
theorem gX0_writeFloat_X0_writeDouble : GoodIn wsX0_writeFloat (wsV RX0 32 RX0 yX0_writeDouble wsX0_writeDouble) := goodIn_app (goodIn_of _ (by decide +kernel)) ggX0_writeFloat_X0_writeDouble
set_option maxRecDepth 20000 in
theorem ggX0_writeFloat_X0_erase : GoodIn wsX0_writeFloat wsX0_erase := goodIn_r _ [11, 6, 12, 13, 14, 15] (by decide +kernel) (by decide +kernel)
set_option maxRecDepth 20000 in
theorem gX0_writeFloat_X0_erase : GoodIn wsX0_writeFloat (wsV RX0 36 RX0 yX0_erase wsX0_erase) := goodIn_app (goodIn_of _ (by decide +kernel)) ggX0_writeFloat_X0_erase
theorem dX0_writeFloat_0 : decode cX0_writeFloat 0 = .ok (.fload_n 2, 1) := by decide +kernel
theorem dX0_writeFloat_1 : decode cX0_writeFloat 1 = .ok (.fload_n 2, 1) := by decide +kernel
theorem dX0_writeFloat_2 : decode cX0_writeFloat 2 = .ok (.fcmp .l, 1) := by decide +kernel
theorem dX0_writeFloat_3 : decode cX0_writeFloat 3 = .ok (.ifCond .ne 13, 3) := by decide +kernel
theorem dX0_writeFloat_6 : decode cX0_writeFloat 6 = .ok (.aload_n 0, 1) := by decide +kernel
theorem dX0_writeFloat_7 : decode cX0_writeFloat 7 = .ok (.iload_n 1, 1) := by decide +kernel
theorem dX0_writeFloat_8 : decode cX0_writeFloat 8 = .ok (.fload_n 2, 1) := by decide +kernel
theorem dX0_writeFloat_9 : decode cX0_writeFloat 9 = .ok (.f2d, 1) := by decide +kernel
theorem dX0_writeFloat_10 : decode cX0_writeFloat 10 = .ok (.invokevirtual 32, 3) := by decide +kernel
theorem dX0_writeFloat_13 : decode cX0_writeFloat 13 = .ok (.goto 9, 3) := by decide +kernel
theorem dX0_writeFloat_16 : decode cX0_writeFloat 16 = .ok (.aload_n 0, 1) := by decide +kernel
theorem dX0_writeFloat_17 : decode cX0_writeFloat 17 = .ok (.iload_n 1, 1) := by decide +kernel
theorem dX0_writeFloat_18 : decode cX0_writeFloat 18 = .ok (.invokevirtual 36, 3) := by decide +kernel
theorem dX0_writeFloat_21 : decode cX0_writeFloat 21 = .ok (.pop, 1) := by decide +kernel
theorem dX0_writeFloat_22 : decode cX0_writeFloat 22 = .ok (.return_, 1) := by decide +kernel
theorem dX0_erase_0 : decode cX0_erase 0 = .ok (.aload_n 0, 1) := by decide +kernel
theorem dX0_erase_1 : decode cX0_erase 1 = .ok (.getfield 15, 3) := by decide +kernel
theorem dX0_erase_4 : decode cX0_erase 4 = .ok (.iload_n 1, 1) := by decide +kernel
theorem dX0_erase_5 : decode cX0_erase 5 = .ok (.baload, 1) := by decide +kernel
theorem dX0_erase_6 : decode cX0_erase 6 = .ok (.istore_n 2, 1) := by decide +kernel
theorem dX0_erase_7 : decode cX0_erase 7 = .ok (.aload_n 0, 1) := by decide +kernel
theorem dX0_erase_8 : decode cX0_erase 8 = .ok (.getfield 15, 3) := by decide +kernel
theorem dX0_erase_11 : decode cX0_erase 11 = .ok (.iload_n 1, 1) := by decide +kernel
theorem dX0_erase_12 : decode cX0_erase 12 = .ok (.iconst 0, 1) := by decide +kernel
theorem dX0_erase_13 : decode cX0_erase 13 = .ok (.bastore, 1) := by decide +kernel
theorem dX0_erase_14 : decode cX0_erase 14 = .ok (.iload_n 2, 1) := by decide +kernel
theorem dX0_erase_15 : decode cX0_erase 15 = .ok (.ireturn, 1) := by decide +kernel
theorem dX0_isNumber_0 : decode cX0_isNumber 0 = .ok (.aload_n 0, 1) := by decide +kernel
theorem dX0_isNumber_1 : decode cX0_isNumber 1 = .ok (.getfield 15, 3) := by decide +kernel
theorem dX0_isNumber_4 : decode cX0_isNumber 4 = .ok (.iload_n 1, 1) := by decide +kernel
theorem dX0_isNumber_5 : decode cX0_isNumber 5 = .ok (.baload, 1) := by decide +kernel
theorem dX0_isNumber_6 : decode cX0_isNumber 6 = .ok (.ireturn, 1) := by decide +kernel
set_option maxRecDepth 20000 in
theorem ggX0_isSo_X1_cellOf : GoodIn wsX0_isSo wsX1_cellOf := goodIn_r _ [3] (by decide +kernel) (by decide +kernel)
set_option maxRecDepth 20000 in
theorem gX0_isSo_X1_cellOf_n40 : GoodIn wsX0_isSo (wsX1_cellOf) := ggX0_isSo_X1_cellOf
set_option maxRecDepth 20000 in
theorem ggX0_isSo_X0_relation : GoodIn wsX0_isSo wsX0_relation := goodIn_r _ [8, 9, 10, 14, 15, 16, 17] (by decide +kernel) (by decide +kernel)
set_option maxRecDepth 20000 in
theorem gX0_isSo_X0_relation : GoodIn wsX0_isSo (wsV RX0 44 RX0 yX0_relation wsX0_relation) := goodIn_app (goodIn_of _ (by decide +kernel)) ggX0_isSo_X0_relation
set_option maxRecDepth 20000 in
theorem ggX0_isSo_X0_isPlainWaySo : GoodIn wsX0_isSo wsX0_isPlainWaySo := goodIn_r _ [13] (by decide +kernel) (by decide +kernel)
set_option maxRecDepth 20000 in
theorem gX0_isSo_X0_isPlainWaySo : GoodIn wsX0_isSo (va_wsS RX0 47 yX0_isPlainWaySo wsX0_isPlainWaySo) := goodIn_app (goodIn_of _ (by decide +kernel)) ggX0_isSo_X0_isPlainWaySo
theorem dX0_isSo_0 : decode cX0_isSo 0 = .ok (.iload_n 1, 1) := by decide +kernel
theorem dX0_isSo_1 : decode cX0_isSo 1 = .ok (.iload_n 2, 1) := by decide +kernel
theorem dX0_isSo_2 : decode cX0_isSo 2 = .ok (.invokestatic 40, 3) := by decide +kernel
theorem dX0_isSo_5 : decode cX0_isSo 5 = .ok (.istore 4, 2) := by decide +kernel
theorem dX0_isSo_7 : decode cX0_isSo 7 = .ok (.bipush 6, 2) := by decide +kernel
theorem dX0_isSo_9 : decode cX0_isSo 9 = .ok (.iload_n 2, 1) := by decide +kernel
theorem dX0_isSo_10 : decode cX0_isSo 10 = .ok (.invokestatic 40, 3) := by decide +kernel
theorem dX0_isSo_13 : decode cX0_isSo 13 = .ok (.istore 5, 2) := by decide +kernel
theorem dX0_isSo_15 : decode cX0_isSo 15 = .ok (.iload_n 3, 1) := by decide +kernel
theorem dX0_isSo_16 : decode cX0_isSo 16 = .ok (.bipush 6, 2) := by decide +kernel
theorem dX0_isSo_18 : decode cX0_isSo 18 = .ok (.idiv, 1) := by decide +kernel
theorem dX0_isSo_19 : decode cX0_isSo 19 = .ok (.istore 6, 2) := by decide +kernel
theorem dX0_isSo_21 : decode cX0_isSo 21 = .ok (.iload 6, 2) := by decide +kernel
theorem dX0_isSo_23 : decode cX0_isSo 23 = .ok (.iconst 2, 1) := by decide +kernel
theorem dX0_isSo_24 : decode cX0_isSo 24 = .ok (.if_icmp .lt 7, 3) := by decide +kernel
theorem dX0_isSo_27 : decode cX0_isSo 27 = .ok (.iconst 1, 1) := by decide +kernel
theorem dX0_isSo_28 : decode cX0_isSo 28 = .ok (.goto 4, 3) := by decide +kernel
theorem dX0_isSo_31 : decode cX0_isSo 31 = .ok (.iconst 0, 1) := by decide +kernel
theorem dX0_isSo_32 : decode cX0_isSo 32 = .ok (.istore 7, 2) := by decide +kernel
theorem dX0_isSo_34 : decode cX0_isSo 34 = .ok (.iload 6, 2) := by decide +kernel
theorem dX0_isSo_36 : decode cX0_isSo 36 = .ok (.iconst 2, 1) := by decide +kernel
theorem dX0_isSo_37 : decode cX0_isSo 37 = .ok (.irem, 1) := by decide +kernel
theorem dX0_isSo_38 : decode cX0_isSo 38 = .ok (.iconst 1, 1) := by decide +kernel
theorem dX0_isSo_39 : decode cX0_isSo 39 = .ok (.if_icmp .ne 7, 3) := by decide +kernel
theorem dX0_isSo_42 : decode cX0_isSo 42 = .ok (.iconst 1, 1) := by decide +kernel
theorem dX0_isSo_43 : decode cX0_isSo 43 = .ok (.goto 4, 3) := by decide +kernel
theorem dX0_isSo_46 : decode cX0_isSo 46 = .ok (.iconst 0, 1) := by decide +kernel
theorem dX0_isSo_47 : decode cX0_isSo 47 = .ok (.istore 8, 2) := by decide +kernel
theorem dX0_isSo_49 : decode cX0_isSo 49 = .ok (.iload 7, 2) := by decide +kernel
theorem dX0_isSo_51 : decode cX0_isSo 51 = .ok (.ifCond .eq 14, 3) := by decide +kernel
theorem dX0_isSo_54 : decode cX0_isSo 54 = .ok (.aload_n 0, 1) := by decide +kernel
theorem dX0_isSo_55 : decode cX0_isSo 55 = .ok (.iload 5, 2) := by decide +kernel
theorem dX0_isSo_57 : decode cX0_isSo 57 = .ok (.iload 4, 2) := by decide +kernel
theorem dX0_isSo_59 : decode cX0_isSo 59 = .ok (.invokevirtual 44, 3) := by decide +kernel
theorem dX0_isSo_62 : decode cX0_isSo 62 = .ok (.goto 11, 3) := by decide +kernel
theorem dX0_isSo_65 : decode cX0_isSo 65 = .ok (.aload_n 0, 1) := by decide +kernel
theorem dX0_isSo_66 : decode cX0_isSo 66 = .ok (.iload 4, 2) := by decide +kernel
theorem dX0_isSo_68 : decode cX0_isSo 68 = .ok (.iload 5, 2) := by decide +kernel
theorem dX0_isSo_70 : decode cX0_isSo 70 = .ok (.invokevirtual 44, 3) := by decide +kernel
theorem dX0_isSo_73 : decode cX0_isSo 73 = .ok (.istore 9, 2) := by decide +kernel
theorem dX0_isSo_75 : decode cX0_isSo 75 = .ok (.iload 9, 2) := by decide +kernel
theorem dX0_isSo_77 : decode cX0_isSo 77 = .ok (.iload_n 3, 1) := by decide +kernel
theorem dX0_isSo_78 : decode cX0_isSo 78 = .ok (.bipush 6, 2) := by decide +kernel
theorem dX0_isSo_80 : decode cX0_isSo 80 = .ok (.irem, 1) := by decide +kernel
theorem dX0_isSo_81 : decode cX0_isSo 81 = .ok (.invokestatic 47, 3) := by decide +kernel
theorem dX0_isSo_84 : decode cX0_isSo 84 = .ok (.iload 8, 2) := by decide +kernel
theorem dX0_isSo_86 : decode cX0_isSo 86 = .ok (.if_icmp .eq 7, 3) := by decide +kernel
theorem dX0_isSo_89 : decode cX0_isSo 89 = .ok (.iconst 1, 1) := by decide +kernel
theorem dX0_isSo_90 : decode cX0_isSo 90 = .ok (.goto 4, 3) := by decide +kernel
theorem dX0_isSo_93 : decode cX0_isSo 93 = .ok (.iconst 0, 1) := by decide +kernel
theorem dX0_isSo_94 : decode cX0_isSo 94 = .ok (.ireturn, 1) := by decide +kernel
theorem dX0_isPlainWaySo_0 : decode cX0_isPlainWaySo 0 = .ok (.iload_n 1, 1) := by decide +kernel
theorem dX0_isPlainWaySo_1 : decode cX0_isPlainWaySo 1 = .ok (.tableswitch 98 0 4 #[35, 45, 60, 71, 87], 35) := by decide +kernel
theorem dX0_isPlainWaySo_36 : decode cX0_isPlainWaySo 36 = .ok (.iload_n 0, 1) := by decide +kernel
theorem dX0_isPlainWaySo_37 : decode cX0_isPlainWaySo 37 = .ok (.ifCond .ne 7, 3) := by decide +kernel
theorem dX0_isPlainWaySo_40 : decode cX0_isPlainWaySo 40 = .ok (.iconst 1, 1) := by decide +kernel
theorem dX0_isPlainWaySo_41 : decode cX0_isPlainWaySo 41 = .ok (.goto 4, 3) := by decide +kernel
theorem dX0_isPlainWaySo_44 : decode cX0_isPlainWaySo 44 = .ok (.iconst 0, 1) := by decide +kernel
theorem dX0_isPlainWaySo_45 : decode cX0_isPlainWaySo 45 = .ok (.ireturn, 1) := by decide +kernel
theorem dX0_isPlainWaySo_46 : decode cX0_isPlainWaySo 46 = .ok (.iload_n 0, 1) := by decide +kernel
theorem dX0_isPlainWaySo_47 : decode cX0_isPlainWaySo 47 = .ok (.ifCond .eq 8, 3) := by decide +kernel
theorem dX0_isPlainWaySo_50 : decode cX0_isPlainWaySo 50 = .ok (.iload_n 0, 1) := by decide +kernel
theorem dX0_isPlainWaySo_51 : decode cX0_isPlainWaySo 51 = .ok (.iconst 1, 1) := by decide +kernel
theorem dX0_isPlainWaySo_52 : decode cX0_isPlainWaySo 52 = .ok (.if_icmp .ne 7, 3) := by decide +kernel
theorem dX0_isPlainWaySo_55 : decode cX0_isPlainWaySo 55 = .ok (.iconst 1, 1) := by decide +kernel
theorem dX0_isPlainWaySo_56 : decode cX0_isPlainWaySo 56 = .ok (.goto 4, 3) := by decide +kernel
theorem dX0_isPlainWaySo_59 : decode cX0_isPlainWaySo 59 = .ok (.iconst 0, 1) := by decide +kernel
theorem dX0_isPlainWaySo_60 : decode cX0_isPlainWaySo 60 = .ok (.ireturn, 1) := by decide +kernel
theorem dX0_isPlainWaySo_61 : decode cX0_isPlainWaySo 61 = .ok (.iload_n 0, 1) := by decide +kernel
theorem dX0_isPlainWaySo_62 : decode cX0_isPlainWaySo 62 = .ok (.iconst 2, 1) := by decide +kernel
theorem dX0_isPlainWaySo_63 : decode cX0_isPlainWaySo 63 = .ok (.if_icmp .ne 7, 3) := by decide +kernel
theorem dX0_isPlainWaySo_66 : decode cX0_isPlainWaySo 66 = .ok (.iconst 1, 1) := by decide +kernel
theorem dX0_isPlainWaySo_67 : decode cX0_isPlainWaySo 67 = .ok (.goto 4, 3) := by decide +kernel
theorem dX0_isPlainWaySo_70 : decode cX0_isPlainWaySo 70 = .ok (.iconst 0, 1) := by decide +kernel
theorem dX0_isPlainWaySo_71 : decode cX0_isPlainWaySo 71 = .ok (.ireturn, 1) := by decide +kernel
theorem dX0_isPlainWaySo_72 : decode cX0_isPlainWaySo 72 = .ok (.iload_n 0, 1) := by decide +kernel
theorem dX0_isPlainWaySo_73 : decode cX0_isPlainWaySo 73 = .ok (.iconst 2, 1) := by decide +kernel
theorem dX0_isPlainWaySo_74 : decode cX0_isPlainWaySo 74 = .ok (.if_icmp .eq 8, 3) := by decide +kernel
theorem dX0_isPlainWaySo_77 : decode cX0_isPlainWaySo 77 = .ok (.iload_n 0, 1) := by decide +kernel
theorem dX0_isPlainWaySo_78 : decode cX0_isPlainWaySo 78 = .ok (.iconst 1, 1) := by decide +kernel
theorem dX0_isPlainWaySo_79 : decode cX0_isPlainWaySo 79 = .ok (.if_icmp .ne 7, 3) := by decide +kernel
theorem dX0_isPlainWaySo_82 : decode cX0_isPlainWaySo 82 = .ok (.iconst 1, 1) := by decide +kernel
theorem dX0_isPlainWaySo_83 : decode cX0_isPlainWaySo 83 = .ok (.goto 4, 3) := by decide +kernel
theorem dX0_isPlainWaySo_86 : decode cX0_isPlainWaySo 86 = .ok (.iconst 0, 1) := by decide +kernel
theorem dX0_isPlainWaySo_87 : decode cX0_isPlainWaySo 87 = .ok (.ireturn, 1) := by decide +kernel
theorem dX0_isPlainWaySo_88 : decode cX0_isPlainWaySo 88 = .ok (.iload_n 0, 1) := by decide +kernel
theorem dX0_isPlainWaySo_89 : decode cX0_isPlainWaySo 89 = .ok (.iconst 1, 1) := by decide +kernel
theorem dX0_isPlainWaySo_90 : decode cX0_isPlainWaySo 90 = .ok (.if_icmp .ne 7, 3) := by decide +kernel
theorem dX0_isPlainWaySo_93 : decode cX0_isPlainWaySo 93 = .ok (.iconst 1, 1) := by decide +kernel
theorem dX0_isPlainWaySo_94 : decode cX0_isPlainWaySo 94 = .ok (.goto 4, 3) := by decide +kernel
theorem dX0_isPlainWaySo_97 : decode cX0_isPlainWaySo 97 = .ok (.iconst 0, 1) := by decide +kernel
theorem dX0_isPlainWaySo_98 : decode cX0_isPlainWaySo 98 = .ok (.ireturn, 1) := by decide +kernel
theorem dX0_isPlainWaySo_99 : decode cX0_isPlainWaySo 99 = .ok (.iload_n 0, 1) := by decide +kernel
theorem dX0_isPlainWaySo_100 : decode cX0_isPlainWaySo 100 = .ok (.iconst 1, 1) := by decide +kernel
theorem dX0_isPlainWaySo_101 : decode cX0_isPlainWaySo 101 = .ok (.if_icmp .eq 7, 3) := by decide +kernel
theorem dX0_isPlainWaySo_104 : decode cX0_isPlainWaySo 104 = .ok (.iconst 1, 1) := by decide +kernel
theorem dX0_isPlainWaySo_105 : decode cX0_isPlainWaySo 105 = .ok (.goto 4, 3) := by decide +kernel
theorem dX0_isPlainWaySo_108 : decode cX0_isPlainWaySo 108 = .ok (.iconst 0, 1) := by decide +kernel
theorem dX0_isPlainWaySo_109 : decode cX0_isPlainWaySo 109 = .ok (.ireturn, 1) := by decide +kernel
theorem dX0_relation_0 : decode cX0_relation 0 = .ok (.aload_n 0, 1) := by decide +kernel
theorem dX0_relation_1 : decode cX0_relation 1 = .ok (.getfield 15, 3) := by decide +kernel
theorem dX0_relation_4 : decode cX0_relation 4 = .ok (.iload_n 1, 1) := by decide +kernel
theorem dX0_relation_5 : decode cX0_relation 5 = .ok (.baload, 1) := by decide +kernel
theorem dX0_relation_6 : decode cX0_relation 6 = .ok (.ifCond .eq 12, 3) := by decide +kernel
theorem dX0_relation_9 : decode cX0_relation 9 = .ok (.aload_n 0, 1) := by decide +kernel
theorem dX0_relation_10 : decode cX0_relation 10 = .ok (.getfield 15, 3) := by decide +kernel
theorem dX0_relation_13 : decode cX0_relation 13 = .ok (.iload_n 2, 1) := by decide +kernel
theorem dX0_relation_14 : decode cX0_relation 14 = .ok (.baload, 1) := by decide +kernel
theorem dX0_relation_15 : decode cX0_relation 15 = .ok (.ifCond .ne 5, 3) := by decide +kernel
theorem dX0_relation_18 : decode cX0_relation 18 = .ok (.iconst 3, 1) := by decide +kernel
theorem dX0_relation_19 : decode cX0_relation 19 = .ok (.ireturn, 1) := by decide +kernel
theorem dX0_relation_20 : decode cX0_relation 20 = .ok (.aload_n 0, 1) := by decide +kernel
theorem dX0_relation_21 : decode cX0_relation 21 = .ok (.getfield 9, 3) := by decide +kernel
theorem dX0_relation_24 : decode cX0_relation 24 = .ok (.iload_n 1, 1) := by decide +kernel
theorem dX0_relation_25 : decode cX0_relation 25 = .ok (.daload, 1) := by decide +kernel
theorem dX0_relation_26 : decode cX0_relation 26 = .ok (.aload_n 0, 1) := by decide +kernel
theorem dX0_relation_27 : decode cX0_relation 27 = .ok (.getfield 9, 3) := by decide +kernel
theorem dX0_relation_30 : decode cX0_relation 30 = .ok (.iload_n 2, 1) := by decide +kernel
theorem dX0_relation_31 : decode cX0_relation 31 = .ok (.daload, 1) := by decide +kernel
theorem dX0_relation_32 : decode cX0_relation 32 = .ok (.dcmp .g, 1) := by decide +kernel
theorem dX0_relation_33 : decode cX0_relation 33 = .ok (.ifCond .ge 5, 3) := by decide +kernel
theorem dX0_relation_36 : decode cX0_relation 36 = .ok (.iconst 0, 1) := by decide +kernel
theorem dX0_relation_37 : decode cX0_relation 37 = .ok (.ireturn, 1) := by decide +kernel
theorem dX0_relation_38 : decode cX0_relation 38 = .ok (.aload_n 0, 1) := by decide +kernel
theorem dX0_relation_39 : decode cX0_relation 39 = .ok (.getfield 9, 3) := by decide +kernel
theorem dX0_relation_42 : decode cX0_relation 42 = .ok (.iload_n 1, 1) := by decide +kernel
theorem dX0_relation_43 : decode cX0_relation 43 = .ok (.daload, 1) := by decide +kernel
theorem dX0_relation_44 : decode cX0_relation 44 = .ok (.aload_n 0, 1) := by decide +kernel
theorem dX0_relation_45 : decode cX0_relation 45 = .ok (.getfield 9, 3) := by decide +kernel
theorem dX0_relation_48 : decode cX0_relation 48 = .ok (.iload_n 2, 1) := by decide +kernel
theorem dX0_relation_49 : decode cX0_relation 49 = .ok (.daload, 1) := by decide +kernel
theorem dX0_relation_50 : decode cX0_relation 50 = .ok (.dcmp .l, 1) := by decide +kernel
theorem dX0_relation_51 : decode cX0_relation 51 = .ok (.ifCond .le 7, 3) := by decide +kernel
theorem dX0_relation_54 : decode cX0_relation 54 = .ok (.iconst 2, 1) := by decide +kernel
theorem dX0_relation_55 : decode cX0_relation 55 = .ok (.goto 4, 3) := by decide +kernel
theorem dX0_relation_58 : decode cX0_relation 58 = .ok (.iconst 1, 1) := by decide +kernel
theorem dX0_relation_59 : decode cX0_relation 59 = .ok (.ireturn, 1) := by decide +kernel
set_option maxRecDepth 20000 in
theorem ggX0_seatsWhereSo_X0_isSo : GoodIn wsX0_seatsWhereSo wsX0_isSo := goodIn_r _ [5, 6, 7, 8, 9, 10, 11, 4, 12, 13, 14, 15, 16, 17, 18, 19, 20, 21] (by decide +kernel) (by decide +kernel)
set_option maxRecDepth 20000 in
theorem gX0_seatsWhereSo_X0_isSo : GoodIn wsX0_seatsWhereSo (wsV RX0 51 RX0 yX0_isSo wsX0_isSo) := goodIn_app (goodIn_of _ (by decide +kernel)) ggX0_seatsWhereSo_X0_isSo
theorem dX0_seatsWhereSo_0 : decode cX0_seatsWhereSo 0 = .ok (.iconst 0, 1) := by decide +kernel
theorem dX0_seatsWhereSo_1 : decode cX0_seatsWhereSo 1 = .ok (.istore_n 3, 1) := by decide +kernel
theorem dX0_seatsWhereSo_2 : decode cX0_seatsWhereSo 2 = .ok (.iconst 0, 1) := by decide +kernel
theorem dX0_seatsWhereSo_3 : decode cX0_seatsWhereSo 3 = .ok (.istore 4, 2) := by decide +kernel
theorem dX0_seatsWhereSo_5 : decode cX0_seatsWhereSo 5 = .ok (.iload 4, 2) := by decide +kernel
theorem dX0_seatsWhereSo_7 : decode cX0_seatsWhereSo 7 = .ok (.iconst 5, 1) := by decide +kernel
theorem dX0_seatsWhereSo_8 : decode cX0_seatsWhereSo 8 = .ok (.if_icmp .ge 23, 3) := by decide +kernel
theorem dX0_seatsWhereSo_11 : decode cX0_seatsWhereSo 11 = .ok (.aload_n 0, 1) := by decide +kernel
theorem dX0_seatsWhereSo_12 : decode cX0_seatsWhereSo 12 = .ok (.iload_n 1, 1) := by decide +kernel
theorem dX0_seatsWhereSo_13 : decode cX0_seatsWhereSo 13 = .ok (.iload 4, 2) := by decide +kernel
theorem dX0_seatsWhereSo_15 : decode cX0_seatsWhereSo 15 = .ok (.iload_n 2, 1) := by decide +kernel
theorem dX0_seatsWhereSo_16 : decode cX0_seatsWhereSo 16 = .ok (.invokevirtual 51, 3) := by decide +kernel
theorem dX0_seatsWhereSo_19 : decode cX0_seatsWhereSo 19 = .ok (.ifCond .eq 6, 3) := by decide +kernel
theorem dX0_seatsWhereSo_22 : decode cX0_seatsWhereSo 22 = .ok (.iinc 3 1, 3) := by decide +kernel
theorem dX0_seatsWhereSo_25 : decode cX0_seatsWhereSo 25 = .ok (.iinc 4 1, 3) := by decide +kernel
theorem dX0_seatsWhereSo_28 : decode cX0_seatsWhereSo 28 = .ok (.goto (-23), 3) := by decide +kernel
theorem dX0_seatsWhereSo_31 : decode cX0_seatsWhereSo 31 = .ok (.iload_n 3, 1) := by decide +kernel
theorem dX0_seatsWhereSo_32 : decode cX0_seatsWhereSo 32 = .ok (.ireturn, 1) := by decide +kernel
set_option maxRecDepth 20000 in
theorem ggX0_stopOf_X0_isSo : GoodIn wsX0_stopOf wsX0_isSo := goodIn_r _ [5, 6, 7, 8, 9, 10, 11, 4, 12, 13, 14, 15, 16, 17, 18, 19, 20, 21] (by decide +kernel) (by decide +kernel)
set_option maxRecDepth 20000 in
theorem gX0_stopOf_X0_isSo : GoodIn wsX0_stopOf (wsV RX0 51 RX0 yX0_isSo wsX0_isSo) := goodIn_app (goodIn_of _ (by decide +kernel)) ggX0_stopOf_X0_isSo
theorem dX0_stopOf_0 : decode cX0_stopOf 0 = .ok (.iload_n 2, 1) := by decide +kernel
theorem dX0_stopOf_1 : decode cX0_stopOf 1 = .ok (.istore 4, 2) := by decide +kernel
theorem dX0_stopOf_3 : decode cX0_stopOf 3 = .ok (.iload 4, 2) := by decide +kernel
theorem dX0_stopOf_5 : decode cX0_stopOf 5 = .ok (.iconst 5, 1) := by decide +kernel
theorem dX0_stopOf_6 : decode cX0_stopOf 6 = .ok (.if_icmp .ge 20, 3) := by decide +kernel
theorem dX0_stopOf_9 : decode cX0_stopOf 9 = .ok (.aload_n 0, 1) := by decide +kernel
theorem dX0_stopOf_10 : decode cX0_stopOf 10 = .ok (.iload_n 1, 1) := by decide +kernel
theorem dX0_stopOf_11 : decode cX0_stopOf 11 = .ok (.iload 4, 2) := by decide +kernel
theorem dX0_stopOf_13 : decode cX0_stopOf 13 = .ok (.iload_n 3, 1) := by decide +kernel
theorem dX0_stopOf_14 : decode cX0_stopOf 14 = .ok (.invokevirtual 51, 3) := by decide +kernel
theorem dX0_stopOf_17 : decode cX0_stopOf 17 = .ok (.ifCond .eq 9, 3) := by decide +kernel
theorem dX0_stopOf_20 : decode cX0_stopOf 20 = .ok (.iinc 4 1, 3) := by decide +kernel
theorem dX0_stopOf_23 : decode cX0_stopOf 23 = .ok (.goto (-20), 3) := by decide +kernel
theorem dX0_stopOf_26 : decode cX0_stopOf 26 = .ok (.iload 4, 2) := by decide +kernel
theorem dX0_stopOf_28 : decode cX0_stopOf 28 = .ok (.ireturn, 1) := by decide +kernel
set_option maxRecDepth 20000 in
theorem ggX0_keepTruth_X0_isSo : GoodIn wsX0_keepTruth wsX0_isSo := goodIn_r _ [6, 7, 8, 9, 10, 11, 12, 5, 13, 14, 15, 16, 17, 18, 19, 20, 21, 22] (by decide +kernel) (by decide +kernel)
set_option maxRecDepth 20000 in
theorem gX0_keepTruth_X0_isSo : GoodIn wsX0_keepTruth (wsV RX0 51 RX0 yX0_isSo wsX0_isSo) := goodIn_app (goodIn_of _ (by decide +kernel)) ggX0_keepTruth_X0_isSo
set_option maxRecDepth 20000 in
theorem ggX0_keepTruth_X1_cellOf : GoodIn wsX0_keepTruth wsX1_cellOf := goodIn_r _ [9] (by decide +kernel) (by decide +kernel)
set_option maxRecDepth 20000 in
theorem gX0_keepTruth_X1_cellOf_n40 : GoodIn wsX0_keepTruth (wsX1_cellOf) := ggX0_keepTruth_X1_cellOf
theorem dX0_keepTruth_0 : decode cX0_keepTruth 0 = .ok (.aload_n 0, 1) := by decide +kernel
theorem dX0_keepTruth_1 : decode cX0_keepTruth 1 = .ok (.iload_n 1, 1) := by decide +kernel
theorem dX0_keepTruth_2 : decode cX0_keepTruth 2 = .ok (.iload_n 2, 1) := by decide +kernel
theorem dX0_keepTruth_3 : decode cX0_keepTruth 3 = .ok (.iload_n 3, 1) := by decide +kernel
theorem dX0_keepTruth_4 : decode cX0_keepTruth 4 = .ok (.invokevirtual 51, 3) := by decide +kernel
theorem dX0_keepTruth_7 : decode cX0_keepTruth 7 = .ok (.istore 4, 2) := by decide +kernel
theorem dX0_keepTruth_9 : decode cX0_keepTruth 9 = .ok (.aload_n 0, 1) := by decide +kernel
theorem dX0_keepTruth_10 : decode cX0_keepTruth 10 = .ok (.getfield 19, 3) := by decide +kernel
theorem dX0_keepTruth_13 : decode cX0_keepTruth 13 = .ok (.iload_n 1, 1) := by decide +kernel
theorem dX0_keepTruth_14 : decode cX0_keepTruth 14 = .ok (.iload_n 2, 1) := by decide +kernel
theorem dX0_keepTruth_15 : decode cX0_keepTruth 15 = .ok (.invokestatic 40, 3) := by decide +kernel
theorem dX0_keepTruth_18 : decode cX0_keepTruth 18 = .ok (.iload 4, 2) := by decide +kernel
theorem dX0_keepTruth_20 : decode cX0_keepTruth 20 = .ok (.ifCond .eq 7, 3) := by decide +kernel
theorem dX0_keepTruth_23 : decode cX0_keepTruth 23 = .ok (.iconst 1, 1) := by decide +kernel
theorem dX0_keepTruth_24 : decode cX0_keepTruth 24 = .ok (.goto 4, 3) := by decide +kernel
theorem dX0_keepTruth_27 : decode cX0_keepTruth 27 = .ok (.iconst 0, 1) := by decide +kernel
theorem dX0_keepTruth_28 : decode cX0_keepTruth 28 = .ok (.iastore, 1) := by decide +kernel
theorem dX0_keepTruth_29 : decode cX0_keepTruth 29 = .ok (.iload 4, 2) := by decide +kernel
theorem dX0_keepTruth_31 : decode cX0_keepTruth 31 = .ok (.ireturn, 1) := by decide +kernel
theorem dX0_truthAt_0 : decode cX0_truthAt 0 = .ok (.aload_n 0, 1) := by decide +kernel
theorem dX0_truthAt_1 : decode cX0_truthAt 1 = .ok (.getfield 19, 3) := by decide +kernel
theorem dX0_truthAt_4 : decode cX0_truthAt 4 = .ok (.iload_n 1, 1) := by decide +kernel
theorem dX0_truthAt_5 : decode cX0_truthAt 5 = .ok (.iaload, 1) := by decide +kernel
theorem dX0_truthAt_6 : decode cX0_truthAt 6 = .ok (.ireturn, 1) := by decide +kernel
theorem dX0_truthsLike_0 : decode cX0_truthsLike 0 = .ok (.iconst 0, 1) := by decide +kernel
theorem dX0_truthsLike_1 : decode cX0_truthsLike 1 = .ok (.istore_n 2, 1) := by decide +kernel
theorem dX0_truthsLike_2 : decode cX0_truthsLike 2 = .ok (.aload_n 0, 1) := by decide +kernel
theorem dX0_truthsLike_3 : decode cX0_truthsLike 3 = .ok (.getfield 19, 3) := by decide +kernel
theorem dX0_truthsLike_6 : decode cX0_truthsLike 6 = .ok (.astore_n 3, 1) := by decide +kernel
theorem dX0_truthsLike_7 : decode cX0_truthsLike 7 = .ok (.aload_n 3, 1) := by decide +kernel
theorem dX0_truthsLike_8 : decode cX0_truthsLike 8 = .ok (.arraylength, 1) := by decide +kernel
theorem dX0_truthsLike_9 : decode cX0_truthsLike 9 = .ok (.istore 4, 2) := by decide +kernel
theorem dX0_truthsLike_11 : decode cX0_truthsLike 11 = .ok (.iconst 0, 1) := by decide +kernel
theorem dX0_truthsLike_12 : decode cX0_truthsLike 12 = .ok (.istore 5, 2) := by decide +kernel
theorem dX0_truthsLike_14 : decode cX0_truthsLike 14 = .ok (.iload 5, 2) := by decide +kernel
theorem dX0_truthsLike_16 : decode cX0_truthsLike 16 = .ok (.iload 4, 2) := by decide +kernel
theorem dX0_truthsLike_18 : decode cX0_truthsLike 18 = .ok (.if_icmp .ge 24, 3) := by decide +kernel
theorem dX0_truthsLike_21 : decode cX0_truthsLike 21 = .ok (.aload_n 3, 1) := by decide +kernel
theorem dX0_truthsLike_22 : decode cX0_truthsLike 22 = .ok (.iload 5, 2) := by decide +kernel
theorem dX0_truthsLike_24 : decode cX0_truthsLike 24 = .ok (.iaload, 1) := by decide +kernel
theorem dX0_truthsLike_25 : decode cX0_truthsLike 25 = .ok (.istore 6, 2) := by decide +kernel
theorem dX0_truthsLike_27 : decode cX0_truthsLike 27 = .ok (.iload 6, 2) := by decide +kernel
theorem dX0_truthsLike_29 : decode cX0_truthsLike 29 = .ok (.iload_n 1, 1) := by decide +kernel
theorem dX0_truthsLike_30 : decode cX0_truthsLike 30 = .ok (.if_icmp .ne 6, 3) := by decide +kernel
theorem dX0_truthsLike_33 : decode cX0_truthsLike 33 = .ok (.iinc 2 1, 3) := by decide +kernel
theorem dX0_truthsLike_36 : decode cX0_truthsLike 36 = .ok (.iinc 5 1, 3) := by decide +kernel
theorem dX0_truthsLike_39 : decode cX0_truthsLike 39 = .ok (.goto (-25), 3) := by decide +kernel
theorem dX0_truthsLike_42 : decode cX0_truthsLike 42 = .ok (.iload_n 2, 1) := by decide +kernel
theorem dX0_truthsLike_43 : decode cX0_truthsLike 43 = .ok (.ireturn, 1) := by decide +kernel
set_option maxRecDepth 20000 in
theorem ggX0_placeOf_X0_lineUp : GoodIn wsX0_placeOf wsX0_lineUp := goodIn_r _ [6, 1, 7, 8, 9, 5, 10, 11, 12, 13, 14, 15, 16, 17, 18, 19, 20, 21, 22, 23] (by decide +kernel) (by decide +kernel)
set_option maxRecDepth 20000 in
theorem gX0_placeOf_X0_lineUp : GoodIn wsX0_placeOf (wsV RX0 55 RX0 yX0_lineUp wsX0_lineUp) := goodIn_app (goodIn_of _ (by decide +kernel)) ggX0_placeOf_X0_lineUp
theorem dX0_placeOf_0 : decode cX0_placeOf 0 = .ok (.iconst 0, 1) := by decide +kernel
theorem dX0_placeOf_1 : decode cX0_placeOf 1 = .ok (.istore 5, 2) := by decide +kernel
theorem dX0_placeOf_3 : decode cX0_placeOf 3 = .ok (.iload 5, 2) := by decide +kernel
theorem dX0_placeOf_5 : decode cX0_placeOf 5 = .ok (.iload 4, 2) := by decide +kernel
theorem dX0_placeOf_7 : decode cX0_placeOf 7 = .ok (.if_icmp .ge 17, 3) := by decide +kernel
theorem dX0_placeOf_10 : decode cX0_placeOf 10 = .ok (.aload_n 0, 1) := by decide +kernel
theorem dX0_placeOf_11 : decode cX0_placeOf 11 = .ok (.iload 5, 2) := by decide +kernel
theorem dX0_placeOf_13 : decode cX0_placeOf 13 = .ok (.iload_n 2, 1) := by decide +kernel
theorem dX0_placeOf_14 : decode cX0_placeOf 14 = .ok (.iload_n 3, 1) := by decide +kernel
theorem dX0_placeOf_15 : decode cX0_placeOf 15 = .ok (.invokevirtual 55, 3) := by decide +kernel
theorem dX0_placeOf_18 : decode cX0_placeOf 18 = .ok (.iinc 5 1, 3) := by decide +kernel
theorem dX0_placeOf_21 : decode cX0_placeOf 21 = .ok (.goto (-18), 3) := by decide +kernel
theorem dX0_placeOf_24 : decode cX0_placeOf 24 = .ok (.iconst 0, 1) := by decide +kernel
theorem dX0_placeOf_25 : decode cX0_placeOf 25 = .ok (.istore 5, 2) := by decide +kernel
theorem dX0_placeOf_27 : decode cX0_placeOf 27 = .ok (.iload 5, 2) := by decide +kernel
theorem dX0_placeOf_29 : decode cX0_placeOf 29 = .ok (.iload 4, 2) := by decide +kernel
theorem dX0_placeOf_31 : decode cX0_placeOf 31 = .ok (.if_icmp .ge 20, 3) := by decide +kernel
theorem dX0_placeOf_34 : decode cX0_placeOf 34 = .ok (.aload_n 0, 1) := by decide +kernel
theorem dX0_placeOf_35 : decode cX0_placeOf 35 = .ok (.getfield 23, 3) := by decide +kernel
theorem dX0_placeOf_38 : decode cX0_placeOf 38 = .ok (.iload 5, 2) := by decide +kernel
theorem dX0_placeOf_40 : decode cX0_placeOf 40 = .ok (.iaload, 1) := by decide +kernel
theorem dX0_placeOf_41 : decode cX0_placeOf 41 = .ok (.iload_n 1, 1) := by decide +kernel
theorem dX0_placeOf_42 : decode cX0_placeOf 42 = .ok (.if_icmp .eq 9, 3) := by decide +kernel
theorem dX0_placeOf_45 : decode cX0_placeOf 45 = .ok (.iinc 5 1, 3) := by decide +kernel
theorem dX0_placeOf_48 : decode cX0_placeOf 48 = .ok (.goto (-21), 3) := by decide +kernel
theorem dX0_placeOf_51 : decode cX0_placeOf 51 = .ok (.iload 5, 2) := by decide +kernel
theorem dX0_placeOf_53 : decode cX0_placeOf 53 = .ok (.ireturn, 1) := by decide +kernel
set_option maxRecDepth 20000 in
theorem ggX0_lineUp_X0_goesAhead : GoodIn wsX0_lineUp wsX0_goesAhead := goodIn_r _ [6, 7, 8, 9, 10, 11, 12, 5, 13, 14, 15, 16, 17, 18, 19] (by decide +kernel) (by decide +kernel)
set_option maxRecDepth 20000 in
theorem gX0_lineUp_X0_goesAhead : GoodIn wsX0_lineUp (wsV RX0 59 RX0 yX0_goesAhead wsX0_goesAhead) := goodIn_app (goodIn_of _ (by decide +kernel)) ggX0_lineUp_X0_goesAhead
theorem dX0_lineUp_0 : decode cX0_lineUp 0 = .ok (.iload_n 1, 1) := by decide +kernel
theorem dX0_lineUp_1 : decode cX0_lineUp 1 = .ok (.istore 4, 2) := by decide +kernel
theorem dX0_lineUp_3 : decode cX0_lineUp 3 = .ok (.iload 4, 2) := by decide +kernel
theorem dX0_lineUp_5 : decode cX0_lineUp 5 = .ok (.ifCond .le 44, 3) := by decide +kernel
theorem dX0_lineUp_8 : decode cX0_lineUp 8 = .ok (.aload_n 0, 1) := by decide +kernel
theorem dX0_lineUp_9 : decode cX0_lineUp 9 = .ok (.aload_n 0, 1) := by decide +kernel
theorem dX0_lineUp_10 : decode cX0_lineUp 10 = .ok (.getfield 23, 3) := by decide +kernel
theorem dX0_lineUp_13 : decode cX0_lineUp 13 = .ok (.iload 4, 2) := by decide +kernel
theorem dX0_lineUp_15 : decode cX0_lineUp 15 = .ok (.iconst 1, 1) := by decide +kernel
theorem dX0_lineUp_16 : decode cX0_lineUp 16 = .ok (.isub, 1) := by decide +kernel
theorem dX0_lineUp_17 : decode cX0_lineUp 17 = .ok (.iaload, 1) := by decide +kernel
theorem dX0_lineUp_18 : decode cX0_lineUp 18 = .ok (.iload_n 1, 1) := by decide +kernel
theorem dX0_lineUp_19 : decode cX0_lineUp 19 = .ok (.iload_n 2, 1) := by decide +kernel
theorem dX0_lineUp_20 : decode cX0_lineUp 20 = .ok (.iload_n 3, 1) := by decide +kernel
theorem dX0_lineUp_21 : decode cX0_lineUp 21 = .ok (.invokevirtual 59, 3) := by decide +kernel
theorem dX0_lineUp_24 : decode cX0_lineUp 24 = .ok (.ifCond .eq 25, 3) := by decide +kernel
theorem dX0_lineUp_27 : decode cX0_lineUp 27 = .ok (.aload_n 0, 1) := by decide +kernel
theorem dX0_lineUp_28 : decode cX0_lineUp 28 = .ok (.getfield 23, 3) := by decide +kernel
theorem dX0_lineUp_31 : decode cX0_lineUp 31 = .ok (.iload 4, 2) := by decide +kernel
theorem dX0_lineUp_33 : decode cX0_lineUp 33 = .ok (.aload_n 0, 1) := by decide +kernel
theorem dX0_lineUp_34 : decode cX0_lineUp 34 = .ok (.getfield 23, 3) := by decide +kernel
theorem dX0_lineUp_37 : decode cX0_lineUp 37 = .ok (.iload 4, 2) := by decide +kernel
theorem dX0_lineUp_39 : decode cX0_lineUp 39 = .ok (.iconst 1, 1) := by decide +kernel
theorem dX0_lineUp_40 : decode cX0_lineUp 40 = .ok (.isub, 1) := by decide +kernel
theorem dX0_lineUp_41 : decode cX0_lineUp 41 = .ok (.iaload, 1) := by decide +kernel
theorem dX0_lineUp_42 : decode cX0_lineUp 42 = .ok (.iastore, 1) := by decide +kernel
theorem dX0_lineUp_43 : decode cX0_lineUp 43 = .ok (.iinc 4 (-1), 3) := by decide +kernel
theorem dX0_lineUp_46 : decode cX0_lineUp 46 = .ok (.goto (-43), 3) := by decide +kernel
theorem dX0_lineUp_49 : decode cX0_lineUp 49 = .ok (.aload_n 0, 1) := by decide +kernel
theorem dX0_lineUp_50 : decode cX0_lineUp 50 = .ok (.getfield 23, 3) := by decide +kernel
theorem dX0_lineUp_53 : decode cX0_lineUp 53 = .ok (.iload 4, 2) := by decide +kernel
theorem dX0_lineUp_55 : decode cX0_lineUp 55 = .ok (.iload_n 1, 1) := by decide +kernel
theorem dX0_lineUp_56 : decode cX0_lineUp 56 = .ok (.iastore, 1) := by decide +kernel
theorem dX0_lineUp_57 : decode cX0_lineUp 57 = .ok (.return_, 1) := by decide +kernel
set_option maxRecDepth 20000 in
theorem ggX0_goesAhead_X1_cellOf : GoodIn wsX0_goesAhead wsX1_cellOf := goodIn_r _ [3] (by decide +kernel) (by decide +kernel)
set_option maxRecDepth 20000 in
theorem gX0_goesAhead_X1_cellOf_n40 : GoodIn wsX0_goesAhead (wsX1_cellOf) := ggX0_goesAhead_X1_cellOf
set_option maxRecDepth 20000 in
theorem ggX0_goesAhead_X0_relation : GoodIn wsX0_goesAhead wsX0_relation := goodIn_r _ [8, 9, 10, 11, 12, 13, 14] (by decide +kernel) (by decide +kernel)
set_option maxRecDepth 20000 in
theorem gX0_goesAhead_X0_relation : GoodIn wsX0_goesAhead (wsV RX0 44 RX0 yX0_relation wsX0_relation) := goodIn_app (goodIn_of _ (by decide +kernel)) ggX0_goesAhead_X0_relation
theorem dX0_goesAhead_0 : decode cX0_goesAhead 0 = .ok (.aload_n 0, 1) := by decide +kernel
theorem dX0_goesAhead_1 : decode cX0_goesAhead 1 = .ok (.iload_n 1, 1) := by decide +kernel
theorem dX0_goesAhead_2 : decode cX0_goesAhead 2 = .ok (.iload_n 3, 1) := by decide +kernel
theorem dX0_goesAhead_3 : decode cX0_goesAhead 3 = .ok (.invokestatic 40, 3) := by decide +kernel
theorem dX0_goesAhead_6 : decode cX0_goesAhead 6 = .ok (.iload_n 2, 1) := by decide +kernel
theorem dX0_goesAhead_7 : decode cX0_goesAhead 7 = .ok (.iload_n 3, 1) := by decide +kernel
theorem dX0_goesAhead_8 : decode cX0_goesAhead 8 = .ok (.invokestatic 40, 3) := by decide +kernel
theorem dX0_goesAhead_11 : decode cX0_goesAhead 11 = .ok (.invokevirtual 44, 3) := by decide +kernel
theorem dX0_goesAhead_14 : decode cX0_goesAhead 14 = .ok (.istore 5, 2) := by decide +kernel
theorem dX0_goesAhead_16 : decode cX0_goesAhead 16 = .ok (.iload 4, 2) := by decide +kernel
theorem dX0_goesAhead_18 : decode cX0_goesAhead 18 = .ok (.ifCond .eq 16, 3) := by decide +kernel
theorem dX0_goesAhead_21 : decode cX0_goesAhead 21 = .ok (.iload 5, 2) := by decide +kernel
theorem dX0_goesAhead_23 : decode cX0_goesAhead 23 = .ok (.ifCond .ne 7, 3) := by decide +kernel
theorem dX0_goesAhead_26 : decode cX0_goesAhead 26 = .ok (.iconst 1, 1) := by decide +kernel
theorem dX0_goesAhead_27 : decode cX0_goesAhead 27 = .ok (.goto 18, 3) := by decide +kernel
theorem dX0_goesAhead_30 : decode cX0_goesAhead 30 = .ok (.iconst 0, 1) := by decide +kernel
theorem dX0_goesAhead_31 : decode cX0_goesAhead 31 = .ok (.goto 14, 3) := by decide +kernel
theorem dX0_goesAhead_34 : decode cX0_goesAhead 34 = .ok (.iload 5, 2) := by decide +kernel
theorem dX0_goesAhead_36 : decode cX0_goesAhead 36 = .ok (.iconst 2, 1) := by decide +kernel
theorem dX0_goesAhead_37 : decode cX0_goesAhead 37 = .ok (.if_icmp .eq 7, 3) := by decide +kernel
theorem dX0_goesAhead_40 : decode cX0_goesAhead 40 = .ok (.iconst 1, 1) := by decide +kernel
theorem dX0_goesAhead_41 : decode cX0_goesAhead 41 = .ok (.goto 4, 3) := by decide +kernel
theorem dX0_goesAhead_44 : decode cX0_goesAhead 44 = .ok (.iconst 0, 1) := by decide +kernel
theorem dX0_goesAhead_45 : decode cX0_goesAhead 45 = .ok (.ireturn, 1) := by decide +kernel
set_option maxRecDepth 20000 in
theorem ggX0_bestOf_X1_cellOf : GoodIn wsX0_bestOf wsX1_cellOf := goodIn_r _ [3] (by decide +kernel) (by decide +kernel)
set_option maxRecDepth 20000 in
theorem gX0_bestOf_X1_cellOf_n40 : GoodIn wsX0_bestOf (wsX1_cellOf) := ggX0_bestOf_X1_cellOf
set_option maxRecDepth 20000 in
theorem ggX0_bestOf_X0_relation : GoodIn wsX0_bestOf wsX0_relation := goodIn_r _ [8, 9, 10, 14, 15, 16, 17] (by decide +kernel) (by decide +kernel)
set_option maxRecDepth 20000 in
theorem gX0_bestOf_X0_relation : GoodIn wsX0_bestOf (wsV RX0 44 RX0 yX0_relation wsX0_relation) := goodIn_app (goodIn_of _ (by decide +kernel)) ggX0_bestOf_X0_relation
set_option maxRecDepth 20000 in
theorem ggX0_bestOf_X0_isBetter : GoodIn wsX0_bestOf wsX0_isBetter := goodIn_r _ [13] (by decide +kernel) (by decide +kernel)
set_option maxRecDepth 20000 in
theorem gX0_bestOf_X0_isBetter : GoodIn wsX0_bestOf (va_wsS RX0 63 yX0_isBetter wsX0_isBetter) := goodIn_app (goodIn_of _ (by decide +kernel)) ggX0_bestOf_X0_isBetter
theorem dX0_bestOf_0 : decode cX0_bestOf 0 = .ok (.iload_n 1, 1) := by decide +kernel
theorem dX0_bestOf_1 : decode cX0_bestOf 1 = .ok (.ifCond .ne 5, 3) := by decide +kernel
theorem dX0_bestOf_4 : decode cX0_bestOf 4 = .ok (.iconst (-1), 1) := by decide +kernel
theorem dX0_bestOf_5 : decode cX0_bestOf 5 = .ok (.ireturn, 1) := by decide +kernel
theorem dX0_bestOf_6 : decode cX0_bestOf 6 = .ok (.iconst 0, 1) := by decide +kernel
theorem dX0_bestOf_7 : decode cX0_bestOf 7 = .ok (.istore 4, 2) := by decide +kernel
theorem dX0_bestOf_9 : decode cX0_bestOf 9 = .ok (.iconst 1, 1) := by decide +kernel
theorem dX0_bestOf_10 : decode cX0_bestOf 10 = .ok (.istore 5, 2) := by decide +kernel
theorem dX0_bestOf_12 : decode cX0_bestOf 12 = .ok (.iload 5, 2) := by decide +kernel
theorem dX0_bestOf_14 : decode cX0_bestOf 14 = .ok (.iload_n 1, 1) := by decide +kernel
theorem dX0_bestOf_15 : decode cX0_bestOf 15 = .ok (.if_icmp .ge 36, 3) := by decide +kernel
theorem dX0_bestOf_18 : decode cX0_bestOf 18 = .ok (.aload_n 0, 1) := by decide +kernel
theorem dX0_bestOf_19 : decode cX0_bestOf 19 = .ok (.iload 5, 2) := by decide +kernel
theorem dX0_bestOf_21 : decode cX0_bestOf 21 = .ok (.iload_n 2, 1) := by decide +kernel
theorem dX0_bestOf_22 : decode cX0_bestOf 22 = .ok (.invokestatic 40, 3) := by decide +kernel
theorem dX0_bestOf_25 : decode cX0_bestOf 25 = .ok (.iload 4, 2) := by decide +kernel
theorem dX0_bestOf_27 : decode cX0_bestOf 27 = .ok (.iload_n 2, 1) := by decide +kernel
theorem dX0_bestOf_28 : decode cX0_bestOf 28 = .ok (.invokestatic 40, 3) := by decide +kernel
theorem dX0_bestOf_31 : decode cX0_bestOf 31 = .ok (.invokevirtual 44, 3) := by decide +kernel
theorem dX0_bestOf_34 : decode cX0_bestOf 34 = .ok (.iload_n 3, 1) := by decide +kernel
theorem dX0_bestOf_35 : decode cX0_bestOf 35 = .ok (.invokestatic 63, 3) := by decide +kernel
theorem dX0_bestOf_38 : decode cX0_bestOf 38 = .ok (.ifCond .eq 7, 3) := by decide +kernel
theorem dX0_bestOf_41 : decode cX0_bestOf 41 = .ok (.iload 5, 2) := by decide +kernel
theorem dX0_bestOf_43 : decode cX0_bestOf 43 = .ok (.istore 4, 2) := by decide +kernel
theorem dX0_bestOf_45 : decode cX0_bestOf 45 = .ok (.iinc 5 1, 3) := by decide +kernel
theorem dX0_bestOf_48 : decode cX0_bestOf 48 = .ok (.goto (-36), 3) := by decide +kernel
theorem dX0_bestOf_51 : decode cX0_bestOf 51 = .ok (.iload 4, 2) := by decide +kernel
theorem dX0_bestOf_53 : decode cX0_bestOf 53 = .ok (.ireturn, 1) := by decide +kernel
theorem dX0_isBetter_0 : decode cX0_isBetter 0 = .ok (.iload_n 1, 1) := by decide +kernel
theorem dX0_isBetter_1 : decode cX0_isBetter 1 = .ok (.tableswitch 63 0 2 #[27, 38, 53], 27) := by decide +kernel
theorem dX0_isBetter_28 : decode cX0_isBetter 28 = .ok (.iload_n 0, 1) := by decide +kernel
theorem dX0_isBetter_29 : decode cX0_isBetter 29 = .ok (.iconst 2, 1) := by decide +kernel
theorem dX0_isBetter_30 : decode cX0_isBetter 30 = .ok (.if_icmp .ne 7, 3) := by decide +kernel
theorem dX0_isBetter_33 : decode cX0_isBetter 33 = .ok (.iconst 1, 1) := by decide +kernel
theorem dX0_isBetter_34 : decode cX0_isBetter 34 = .ok (.goto 4, 3) := by decide +kernel
theorem dX0_isBetter_37 : decode cX0_isBetter 37 = .ok (.iconst 0, 1) := by decide +kernel
theorem dX0_isBetter_38 : decode cX0_isBetter 38 = .ok (.ireturn, 1) := by decide +kernel
theorem dX0_isBetter_39 : decode cX0_isBetter 39 = .ok (.iload_n 0, 1) := by decide +kernel
theorem dX0_isBetter_40 : decode cX0_isBetter 40 = .ok (.ifCond .eq 12, 3) := by decide +kernel
theorem dX0_isBetter_43 : decode cX0_isBetter 43 = .ok (.iload_n 0, 1) := by decide +kernel
theorem dX0_isBetter_44 : decode cX0_isBetter 44 = .ok (.iconst 1, 1) := by decide +kernel
theorem dX0_isBetter_45 : decode cX0_isBetter 45 = .ok (.if_icmp .eq 7, 3) := by decide +kernel
theorem dX0_isBetter_48 : decode cX0_isBetter 48 = .ok (.iconst 1, 1) := by decide +kernel
theorem dX0_isBetter_49 : decode cX0_isBetter 49 = .ok (.goto 4, 3) := by decide +kernel
theorem dX0_isBetter_52 : decode cX0_isBetter 52 = .ok (.iconst 0, 1) := by decide +kernel
theorem dX0_isBetter_53 : decode cX0_isBetter 53 = .ok (.ireturn, 1) := by decide +kernel
theorem dX0_isBetter_54 : decode cX0_isBetter 54 = .ok (.iload_n 0, 1) := by decide +kernel
theorem dX0_isBetter_55 : decode cX0_isBetter 55 = .ok (.ifCond .eq 7, 3) := by decide +kernel
theorem dX0_isBetter_58 : decode cX0_isBetter 58 = .ok (.iconst 1, 1) := by decide +kernel
theorem dX0_isBetter_59 : decode cX0_isBetter 59 = .ok (.goto 4, 3) := by decide +kernel
theorem dX0_isBetter_62 : decode cX0_isBetter 62 = .ok (.iconst 0, 1) := by decide +kernel
theorem dX0_isBetter_63 : decode cX0_isBetter 63 = .ok (.ireturn, 1) := by decide +kernel
theorem dX0_isBetter_64 : decode cX0_isBetter 64 = .ok (.iload_n 0, 1) := by decide +kernel
theorem dX0_isBetter_65 : decode cX0_isBetter 65 = .ok (.iconst 2, 1) := by decide +kernel
theorem dX0_isBetter_66 : decode cX0_isBetter 66 = .ok (.if_icmp .eq 8, 3) := by decide +kernel
theorem dX0_isBetter_69 : decode cX0_isBetter 69 = .ok (.iload_n 0, 1) := by decide +kernel
theorem dX0_isBetter_70 : decode cX0_isBetter 70 = .ok (.iconst 1, 1) := by decide +kernel
theorem dX0_isBetter_71 : decode cX0_isBetter 71 = .ok (.if_icmp .ne 7, 3) := by decide +kernel
theorem dX0_isBetter_74 : decode cX0_isBetter 74 = .ok (.iconst 1, 1) := by decide +kernel
theorem dX0_isBetter_75 : decode cX0_isBetter 75 = .ok (.goto 4, 3) := by decide +kernel
theorem dX0_isBetter_78 : decode cX0_isBetter 78 = .ok (.iconst 0, 1) := by decide +kernel
theorem dX0_isBetter_79 : decode cX0_isBetter 79 = .ok (.ireturn, 1) := by decide +kernel
set_option maxRecDepth 20000 in
theorem ggX0_seatsAgainst_X1_cellOf : GoodIn wsX0_seatsAgainst wsX1_cellOf := goodIn_r _ [3] (by decide +kernel) (by decide +kernel)
set_option maxRecDepth 20000 in
theorem gX0_seatsAgainst_X1_cellOf_n40 : GoodIn wsX0_seatsAgainst (wsX1_cellOf) := ggX0_seatsAgainst_X1_cellOf
set_option maxRecDepth 20000 in
theorem ggX0_seatsAgainst_X0_relation : GoodIn wsX0_seatsAgainst wsX0_relation := goodIn_r _ [8, 9, 10, 14, 15, 16, 17] (by decide +kernel) (by decide +kernel)
set_option maxRecDepth 20000 in
theorem gX0_seatsAgainst_X0_relation : GoodIn wsX0_seatsAgainst (wsV RX0 44 RX0 yX0_relation wsX0_relation) := goodIn_app (goodIn_of _ (by decide +kernel)) ggX0_seatsAgainst_X0_relation
set_option maxRecDepth 20000 in
theorem ggX0_seatsAgainst_X0_isAgainst : GoodIn wsX0_seatsAgainst wsX0_isAgainst := goodIn_r _ [13] (by decide +kernel) (by decide +kernel)
set_option maxRecDepth 20000 in
theorem gX0_seatsAgainst_X0_isAgainst : GoodIn wsX0_seatsAgainst (va_wsS RX0 66 yX0_isAgainst wsX0_isAgainst) := goodIn_app (goodIn_of _ (by decide +kernel)) ggX0_seatsAgainst_X0_isAgainst
theorem dX0_seatsAgainst_0 : decode cX0_seatsAgainst 0 = .ok (.iconst 0, 1) := by decide +kernel
theorem dX0_seatsAgainst_1 : decode cX0_seatsAgainst 1 = .ok (.istore 4, 2) := by decide +kernel
theorem dX0_seatsAgainst_3 : decode cX0_seatsAgainst 3 = .ok (.iconst 0, 1) := by decide +kernel
theorem dX0_seatsAgainst_4 : decode cX0_seatsAgainst 4 = .ok (.istore 5, 2) := by decide +kernel
theorem dX0_seatsAgainst_6 : decode cX0_seatsAgainst 6 = .ok (.iload 5, 2) := by decide +kernel
theorem dX0_seatsAgainst_8 : decode cX0_seatsAgainst 8 = .ok (.iconst 5, 1) := by decide +kernel
theorem dX0_seatsAgainst_9 : decode cX0_seatsAgainst 9 = .ok (.if_icmp .ge 35, 3) := by decide +kernel
theorem dX0_seatsAgainst_12 : decode cX0_seatsAgainst 12 = .ok (.aload_n 0, 1) := by decide +kernel
theorem dX0_seatsAgainst_13 : decode cX0_seatsAgainst 13 = .ok (.iload_n 1, 1) := by decide +kernel
theorem dX0_seatsAgainst_14 : decode cX0_seatsAgainst 14 = .ok (.iload 5, 2) := by decide +kernel
theorem dX0_seatsAgainst_16 : decode cX0_seatsAgainst 16 = .ok (.invokestatic 40, 3) := by decide +kernel
theorem dX0_seatsAgainst_19 : decode cX0_seatsAgainst 19 = .ok (.iload_n 2, 1) := by decide +kernel
theorem dX0_seatsAgainst_20 : decode cX0_seatsAgainst 20 = .ok (.iload 5, 2) := by decide +kernel
theorem dX0_seatsAgainst_22 : decode cX0_seatsAgainst 22 = .ok (.invokestatic 40, 3) := by decide +kernel
theorem dX0_seatsAgainst_25 : decode cX0_seatsAgainst 25 = .ok (.invokevirtual 44, 3) := by decide +kernel
theorem dX0_seatsAgainst_28 : decode cX0_seatsAgainst 28 = .ok (.iload_n 3, 1) := by decide +kernel
theorem dX0_seatsAgainst_29 : decode cX0_seatsAgainst 29 = .ok (.invokestatic 66, 3) := by decide +kernel
theorem dX0_seatsAgainst_32 : decode cX0_seatsAgainst 32 = .ok (.ifCond .eq 6, 3) := by decide +kernel
theorem dX0_seatsAgainst_35 : decode cX0_seatsAgainst 35 = .ok (.iinc 4 1, 3) := by decide +kernel
theorem dX0_seatsAgainst_38 : decode cX0_seatsAgainst 38 = .ok (.iinc 5 1, 3) := by decide +kernel
theorem dX0_seatsAgainst_41 : decode cX0_seatsAgainst 41 = .ok (.goto (-35), 3) := by decide +kernel
theorem dX0_seatsAgainst_44 : decode cX0_seatsAgainst 44 = .ok (.iload 4, 2) := by decide +kernel
theorem dX0_seatsAgainst_46 : decode cX0_seatsAgainst 46 = .ok (.ireturn, 1) := by decide +kernel
theorem dX0_isAgainst_0 : decode cX0_isAgainst 0 = .ok (.iload_n 1, 1) := by decide +kernel
theorem dX0_isAgainst_1 : decode cX0_isAgainst 1 = .ok (.tableswitch 74 0 3 #[31, 42, 52, 63], 31) := by decide +kernel
theorem dX0_isAgainst_32 : decode cX0_isAgainst 32 = .ok (.iload_n 0, 1) := by decide +kernel
theorem dX0_isAgainst_33 : decode cX0_isAgainst 33 = .ok (.iconst 2, 1) := by decide +kernel
theorem dX0_isAgainst_34 : decode cX0_isAgainst 34 = .ok (.if_icmp .ne 7, 3) := by decide +kernel
theorem dX0_isAgainst_37 : decode cX0_isAgainst 37 = .ok (.iconst 1, 1) := by decide +kernel
theorem dX0_isAgainst_38 : decode cX0_isAgainst 38 = .ok (.goto 4, 3) := by decide +kernel
theorem dX0_isAgainst_41 : decode cX0_isAgainst 41 = .ok (.iconst 0, 1) := by decide +kernel
theorem dX0_isAgainst_42 : decode cX0_isAgainst 42 = .ok (.ireturn, 1) := by decide +kernel
theorem dX0_isAgainst_43 : decode cX0_isAgainst 43 = .ok (.iload_n 0, 1) := by decide +kernel
theorem dX0_isAgainst_44 : decode cX0_isAgainst 44 = .ok (.ifCond .ne 7, 3) := by decide +kernel
theorem dX0_isAgainst_47 : decode cX0_isAgainst 47 = .ok (.iconst 1, 1) := by decide +kernel
theorem dX0_isAgainst_48 : decode cX0_isAgainst 48 = .ok (.goto 4, 3) := by decide +kernel
theorem dX0_isAgainst_51 : decode cX0_isAgainst 51 = .ok (.iconst 0, 1) := by decide +kernel
theorem dX0_isAgainst_52 : decode cX0_isAgainst 52 = .ok (.ireturn, 1) := by decide +kernel
theorem dX0_isAgainst_53 : decode cX0_isAgainst 53 = .ok (.iload_n 0, 1) := by decide +kernel
theorem dX0_isAgainst_54 : decode cX0_isAgainst 54 = .ok (.iconst 1, 1) := by decide +kernel
theorem dX0_isAgainst_55 : decode cX0_isAgainst 55 = .ok (.if_icmp .ne 7, 3) := by decide +kernel
theorem dX0_isAgainst_58 : decode cX0_isAgainst 58 = .ok (.iconst 1, 1) := by decide +kernel
theorem dX0_isAgainst_59 : decode cX0_isAgainst 59 = .ok (.goto 4, 3) := by decide +kernel
theorem dX0_isAgainst_62 : decode cX0_isAgainst 62 = .ok (.iconst 0, 1) := by decide +kernel
theorem dX0_isAgainst_63 : decode cX0_isAgainst 63 = .ok (.ireturn, 1) := by decide +kernel
theorem dX0_isAgainst_64 : decode cX0_isAgainst 64 = .ok (.iload_n 0, 1) := by decide +kernel
theorem dX0_isAgainst_65 : decode cX0_isAgainst 65 = .ok (.iconst 3, 1) := by decide +kernel
theorem dX0_isAgainst_66 : decode cX0_isAgainst 66 = .ok (.if_icmp .ne 7, 3) := by decide +kernel
theorem dX0_isAgainst_69 : decode cX0_isAgainst 69 = .ok (.iconst 1, 1) := by decide +kernel
theorem dX0_isAgainst_70 : decode cX0_isAgainst 70 = .ok (.goto 4, 3) := by decide +kernel
theorem dX0_isAgainst_73 : decode cX0_isAgainst 73 = .ok (.iconst 0, 1) := by decide +kernel
theorem dX0_isAgainst_74 : decode cX0_isAgainst 74 = .ok (.ireturn, 1) := by decide +kernel
theorem dX0_isAgainst_75 : decode cX0_isAgainst 75 = .ok (.iload_n 0, 1) := by decide +kernel
theorem dX0_isAgainst_76 : decode cX0_isAgainst 76 = .ok (.iconst 1, 1) := by decide +kernel
theorem dX0_isAgainst_77 : decode cX0_isAgainst 77 = .ok (.if_icmp .eq 8, 3) := by decide +kernel
theorem dX0_isAgainst_80 : decode cX0_isAgainst 80 = .ok (.iload_n 0, 1) := by decide +kernel
theorem dX0_isAgainst_81 : decode cX0_isAgainst 81 = .ok (.iconst 3, 1) := by decide +kernel
theorem dX0_isAgainst_82 : decode cX0_isAgainst 82 = .ok (.if_icmp .ne 7, 3) := by decide +kernel
theorem dX0_isAgainst_85 : decode cX0_isAgainst 85 = .ok (.iconst 1, 1) := by decide +kernel
theorem dX0_isAgainst_86 : decode cX0_isAgainst 86 = .ok (.goto 4, 3) := by decide +kernel
theorem dX0_isAgainst_89 : decode cX0_isAgainst 89 = .ok (.iconst 0, 1) := by decide +kernel
theorem dX0_isAgainst_90 : decode cX0_isAgainst 90 = .ok (.ireturn, 1) := by decide +kernel
theorem dX0_eighthsAt_0 : decode cX0_eighthsAt 0 = .ok (.aload_n 0, 1) := by decide +kernel
theorem dX0_eighthsAt_1 : decode cX0_eighthsAt 1 = .ok (.getfield 9, 3) := by decide +kernel
theorem dX0_eighthsAt_4 : decode cX0_eighthsAt 4 = .ok (.iload_n 1, 1) := by decide +kernel
theorem dX0_eighthsAt_5 : decode cX0_eighthsAt 5 = .ok (.daload, 1) := by decide +kernel
theorem dX0_eighthsAt_6 : decode cX0_eighthsAt 6 = .ok (.ldc2_w 69, 3) := by decide +kernel
theorem dX0_eighthsAt_9 : decode cX0_eighthsAt 9 = .ok (.dmul, 1) := by decide +kernel
theorem dX0_eighthsAt_10 : decode cX0_eighthsAt 10 = .ok (.d2l, 1) := by decide +kernel
theorem dX0_eighthsAt_11 : decode cX0_eighthsAt 11 = .ok (.lreturn, 1) := by decide +kernel
set_option maxRecDepth 20000 in
theorem ggX0_sumOfEighths_X3_restart : GoodIn wsX0_sumOfEighths wsX3_restart := goodIn_r _ [7, 8, 9, 10, 11, 12, 55] (by decide +kernel) (by decide +kernel)
set_option maxRecDepth 20000 in
theorem gX0_sumOfEighths_X3_restart : GoodIn wsX0_sumOfEighths (wsV RX0 71 RX3 yX3_restart wsX3_restart) := goodIn_app (goodIn_of _ (by decide +kernel)) ggX0_sumOfEighths_X3_restart
set_option maxRecDepth 20000 in
theorem ggX0_sumOfEighths_X1_cellOf : GoodIn wsX0_sumOfEighths wsX1_cellOf := goodIn_r _ [15] (by decide +kernel) (by decide +kernel)
set_option maxRecDepth 20000 in
theorem gX0_sumOfEighths_X1_cellOf_n40 : GoodIn wsX0_sumOfEighths (wsX1_cellOf) := ggX0_sumOfEighths_X1_cellOf
set_option maxRecDepth 20000 in
theorem ggX0_sumOfEighths_X3_include : GoodIn wsX0_sumOfEighths wsX3_include := goodIn_r _ [19, 20, 8, 21, 22, 23, 24, 25, 26, 27, 28, 29, 6, 30, 31, 55] (by decide +kernel) (by decide +kernel)
set_option maxRecDepth 20000 in
theorem gX0_sumOfEighths_X3_include : GoodIn wsX0_sumOfEighths (wsV RX0 76 RX3 yX3_include wsX3_include) := goodIn_app (goodIn_of _ (by decide +kernel)) ggX0_sumOfEighths_X3_include
set_option maxRecDepth 20000 in
theorem ggX0_sumOfEighths_X3_wholeEighths : GoodIn wsX0_sumOfEighths wsX3_wholeEighths := goodIn_r _ [35, 8, 36, 37, 38, 39, 40, 6, 41, 42, 43, 44, 45, 46, 47, 48, 49, 50, 55] (by decide +kernel) (by decide +kernel)
set_option maxRecDepth 20000 in
theorem gX0_sumOfEighths_X3_wholeEighths : GoodIn wsX0_sumOfEighths (wsV RX0 80 RX3 yX3_wholeEighths wsX3_wholeEighths) := goodIn_app (goodIn_of _ (by decide +kernel)) ggX0_sumOfEighths_X3_wholeEighths
theorem dX0_sumOfEighths_0 : decode cX0_sumOfEighths 0 = .ok (.aload_n 2, 1) := by decide +kernel
theorem dX0_sumOfEighths_1 : decode cX0_sumOfEighths 1 = .ok (.invokevirtual 71, 3) := by decide +kernel
theorem dX0_sumOfEighths_4 : decode cX0_sumOfEighths 4 = .ok (.iconst 0, 1) := by decide +kernel
theorem dX0_sumOfEighths_5 : decode cX0_sumOfEighths 5 = .ok (.istore_n 3, 1) := by decide +kernel
theorem dX0_sumOfEighths_6 : decode cX0_sumOfEighths 6 = .ok (.iload_n 3, 1) := by decide +kernel
theorem dX0_sumOfEighths_7 : decode cX0_sumOfEighths 7 = .ok (.iconst 5, 1) := by decide +kernel
theorem dX0_sumOfEighths_8 : decode cX0_sumOfEighths 8 = .ok (.if_icmp .ge 37, 3) := by decide +kernel
theorem dX0_sumOfEighths_11 : decode cX0_sumOfEighths 11 = .ok (.iload_n 1, 1) := by decide +kernel
theorem dX0_sumOfEighths_12 : decode cX0_sumOfEighths 12 = .ok (.iload_n 3, 1) := by decide +kernel
theorem dX0_sumOfEighths_13 : decode cX0_sumOfEighths 13 = .ok (.invokestatic 40, 3) := by decide +kernel
theorem dX0_sumOfEighths_16 : decode cX0_sumOfEighths 16 = .ok (.istore 4, 2) := by decide +kernel
theorem dX0_sumOfEighths_18 : decode cX0_sumOfEighths 18 = .ok (.aload_n 0, 1) := by decide +kernel
theorem dX0_sumOfEighths_19 : decode cX0_sumOfEighths 19 = .ok (.getfield 15, 3) := by decide +kernel
theorem dX0_sumOfEighths_22 : decode cX0_sumOfEighths 22 = .ok (.iload 4, 2) := by decide +kernel
theorem dX0_sumOfEighths_24 : decode cX0_sumOfEighths 24 = .ok (.baload, 1) := by decide +kernel
theorem dX0_sumOfEighths_25 : decode cX0_sumOfEighths 25 = .ok (.ifCond .eq 14, 3) := by decide +kernel
theorem dX0_sumOfEighths_28 : decode cX0_sumOfEighths 28 = .ok (.aload_n 2, 1) := by decide +kernel
theorem dX0_sumOfEighths_29 : decode cX0_sumOfEighths 29 = .ok (.aload_n 0, 1) := by decide +kernel
theorem dX0_sumOfEighths_30 : decode cX0_sumOfEighths 30 = .ok (.getfield 9, 3) := by decide +kernel
theorem dX0_sumOfEighths_33 : decode cX0_sumOfEighths 33 = .ok (.iload 4, 2) := by decide +kernel
theorem dX0_sumOfEighths_35 : decode cX0_sumOfEighths 35 = .ok (.daload, 1) := by decide +kernel
theorem dX0_sumOfEighths_36 : decode cX0_sumOfEighths 36 = .ok (.invokevirtual 76, 3) := by decide +kernel
theorem dX0_sumOfEighths_39 : decode cX0_sumOfEighths 39 = .ok (.iinc 3 1, 3) := by decide +kernel
theorem dX0_sumOfEighths_42 : decode cX0_sumOfEighths 42 = .ok (.goto (-36), 3) := by decide +kernel
theorem dX0_sumOfEighths_45 : decode cX0_sumOfEighths 45 = .ok (.aload_n 2, 1) := by decide +kernel
theorem dX0_sumOfEighths_46 : decode cX0_sumOfEighths 46 = .ok (.invokevirtual 80, 3) := by decide +kernel
theorem dX0_sumOfEighths_49 : decode cX0_sumOfEighths 49 = .ok (.lreturn, 1) := by decide +kernel
set_option maxRecDepth 20000 in
theorem ggX0_numbersOfEntries_X1_cellOf : GoodIn wsX0_numbersOfEntries wsX1_cellOf := goodIn_r _ [3] (by decide +kernel) (by decide +kernel)
set_option maxRecDepth 20000 in
theorem gX0_numbersOfEntries_X1_cellOf_n40 : GoodIn wsX0_numbersOfEntries (wsX1_cellOf) := ggX0_numbersOfEntries_X1_cellOf
set_option maxRecDepth 20000 in
theorem ggX0_numbersOfEntries_X0_numbersAmong : GoodIn wsX0_numbersOfEntries wsX0_numbersAmong := goodIn_r _ [8, 9, 10, 11, 12, 13] (by decide +kernel) (by decide +kernel)
set_option maxRecDepth 20000 in
theorem gX0_numbersOfEntries_X0_numbersAmong : GoodIn wsX0_numbersOfEntries (wsV RX0 84 RX0 yX0_numbersAmong wsX0_numbersAmong) := goodIn_app (goodIn_of _ (by decide +kernel)) ggX0_numbersOfEntries_X0_numbersAmong
theorem dX0_numbersOfEntries_0 : decode cX0_numbersOfEntries 0 = .ok (.aload_n 0, 1) := by decide +kernel
theorem dX0_numbersOfEntries_1 : decode cX0_numbersOfEntries 1 = .ok (.iconst 0, 1) := by decide +kernel
theorem dX0_numbersOfEntries_2 : decode cX0_numbersOfEntries 2 = .ok (.bipush 6, 2) := by decide +kernel
theorem dX0_numbersOfEntries_4 : decode cX0_numbersOfEntries 4 = .ok (.iconst 0, 1) := by decide +kernel
theorem dX0_numbersOfEntries_5 : decode cX0_numbersOfEntries 5 = .ok (.invokestatic 40, 3) := by decide +kernel
theorem dX0_numbersOfEntries_8 : decode cX0_numbersOfEntries 8 = .ok (.invokevirtual 84, 3) := by decide +kernel
theorem dX0_numbersOfEntries_11 : decode cX0_numbersOfEntries 11 = .ok (.ireturn, 1) := by decide +kernel
set_option maxRecDepth 20000 in
theorem ggX0_numbersOfLimits_X1_cellOf : GoodIn wsX0_numbersOfLimits wsX1_cellOf := goodIn_r _ [3] (by decide +kernel) (by decide +kernel)
set_option maxRecDepth 20000 in
theorem gX0_numbersOfLimits_X1_cellOf_n40 : GoodIn wsX0_numbersOfLimits (wsX1_cellOf) := ggX0_numbersOfLimits_X1_cellOf
set_option maxRecDepth 20000 in
theorem ggX0_numbersOfLimits_X0_numbersAmong : GoodIn wsX0_numbersOfLimits wsX0_numbersAmong := goodIn_r _ [8, 9, 10, 11, 12, 13] (by decide +kernel) (by decide +kernel)
set_option maxRecDepth 20000 in
theorem gX0_numbersOfLimits_X0_numbersAmong : GoodIn wsX0_numbersOfLimits (wsV RX0 84 RX0 yX0_numbersAmong wsX0_numbersAmong) := goodIn_app (goodIn_of _ (by decide +kernel)) ggX0_numbersOfLimits_X0_numbersAmong
theorem dX0_numbersOfLimits_0 : decode cX0_numbersOfLimits 0 = .ok (.aload_n 0, 1) := by decide +kernel
theorem dX0_numbersOfLimits_1 : decode cX0_numbersOfLimits 1 = .ok (.bipush 6, 2) := by decide +kernel
theorem dX0_numbersOfLimits_3 : decode cX0_numbersOfLimits 3 = .ok (.iconst 0, 1) := by decide +kernel
theorem dX0_numbersOfLimits_4 : decode cX0_numbersOfLimits 4 = .ok (.invokestatic 40, 3) := by decide +kernel
theorem dX0_numbersOfLimits_7 : decode cX0_numbersOfLimits 7 = .ok (.bipush 35, 2) := by decide +kernel
theorem dX0_numbersOfLimits_9 : decode cX0_numbersOfLimits 9 = .ok (.invokevirtual 84, 3) := by decide +kernel
theorem dX0_numbersOfLimits_12 : decode cX0_numbersOfLimits 12 = .ok (.ireturn, 1) := by decide +kernel
theorem dX0_numbersAmong_0 : decode cX0_numbersAmong 0 = .ok (.iconst 0, 1) := by decide +kernel
theorem dX0_numbersAmong_1 : decode cX0_numbersAmong 1 = .ok (.istore_n 3, 1) := by decide +kernel
theorem dX0_numbersAmong_2 : decode cX0_numbersAmong 2 = .ok (.iload_n 1, 1) := by decide +kernel
theorem dX0_numbersAmong_3 : decode cX0_numbersAmong 3 = .ok (.istore 4, 2) := by decide +kernel
theorem dX0_numbersAmong_5 : decode cX0_numbersAmong 5 = .ok (.iload 4, 2) := by decide +kernel
theorem dX0_numbersAmong_7 : decode cX0_numbersAmong 7 = .ok (.iload_n 2, 1) := by decide +kernel
theorem dX0_numbersAmong_8 : decode cX0_numbersAmong 8 = .ok (.if_icmp .ge 22, 3) := by decide +kernel
theorem dX0_numbersAmong_11 : decode cX0_numbersAmong 11 = .ok (.aload_n 0, 1) := by decide +kernel
theorem dX0_numbersAmong_12 : decode cX0_numbersAmong 12 = .ok (.getfield 15, 3) := by decide +kernel
theorem dX0_numbersAmong_15 : decode cX0_numbersAmong 15 = .ok (.iload 4, 2) := by decide +kernel
theorem dX0_numbersAmong_17 : decode cX0_numbersAmong 17 = .ok (.baload, 1) := by decide +kernel
theorem dX0_numbersAmong_18 : decode cX0_numbersAmong 18 = .ok (.ifCond .eq 6, 3) := by decide +kernel
theorem dX0_numbersAmong_21 : decode cX0_numbersAmong 21 = .ok (.iinc 3 1, 3) := by decide +kernel
theorem dX0_numbersAmong_24 : decode cX0_numbersAmong 24 = .ok (.iinc 4 1, 3) := by decide +kernel
theorem dX0_numbersAmong_27 : decode cX0_numbersAmong 27 = .ok (.goto (-22), 3) := by decide +kernel
theorem dX0_numbersAmong_30 : decode cX0_numbersAmong 30 = .ok (.iload_n 3, 1) := by decide +kernel
theorem dX0_numbersAmong_31 : decode cX0_numbersAmong 31 = .ok (.ireturn, 1) := by decide +kernel
theorem dX3_init_0 : decode cX3_init 0 = .ok (.aload_n 0, 1) := by decide +kernel
theorem dX3_init_1 : decode cX3_init 1 = .ok (.invokespecial 3, 3) := by decide +kernel
theorem dX3_init_4 : decode cX3_init 4 = .ok (.aload_n 0, 1) := by decide +kernel
theorem dX3_init_5 : decode cX3_init 5 = .ok (.bipush 42, 2) := by decide +kernel
theorem dX3_init_7 : decode cX3_init 7 = .ok (.newarray .long, 2) := by decide +kernel
theorem dX3_init_9 : decode cX3_init 9 = .ok (.putfield 9, 3) := by decide +kernel
theorem dX3_init_12 : decode cX3_init 12 = .ok (.return_, 1) := by decide +kernel
set_option maxRecDepth 20000 in
theorem ggX3_restart_J7_fill_d0a16 : GoodIn wsX3_restart wsJ7_fill_d0a16 := goodIn_r _ [5] (by decide +kernel) (by decide +kernel)
set_option maxRecDepth 20000 in
theorem gX3_restart_J7_fill_d0a16 : GoodIn wsX3_restart (va_wsS RX3 13 yJ7_fill_d0a16 wsJ7_fill_d0a16) := goodIn_app (goodIn_of _ (by decide +kernel)) ggX3_restart_J7_fill_d0a16
theorem dX3_restart_0 : decode cX3_restart 0 = .ok (.aload_n 0, 1) := by decide +kernel
theorem dX3_restart_1 : decode cX3_restart 1 = .ok (.getfield 9, 3) := by decide +kernel
theorem dX3_restart_4 : decode cX3_restart 4 = .ok (.lconst 0, 1) := by decide +kernel
theorem dX3_restart_5 : decode cX3_restart 5 = .ok (.invokestatic 13, 3) := by decide +kernel
theorem dX3_restart_8 : decode cX3_restart 8 = .ok (.return_, 1) := by decide +kernel
set_option maxRecDepth 20000 in
theorem ggX3_include_X3_takeApart : GoodIn wsX3_include wsX3_takeApart := goodIn_r _ [13, 2, 14, 15] (by decide +kernel) (by decide +kernel)
set_option maxRecDepth 20000 in
theorem gX3_include_X3_takeApart : GoodIn wsX3_include (wsV RX3 31 RX3 yX3_takeApart wsX3_takeApart) := goodIn_app (goodIn_of _ (by decide +kernel)) ggX3_include_X3_takeApart
theorem dX3_include_0 : decode cX3_include 0 = .ok (.dload_n 1, 1) := by decide +kernel
theorem dX3_include_1 : decode cX3_include 1 = .ok (.ldc2_w 19, 3) := by decide +kernel
theorem dX3_include_4 : decode cX3_include 4 = .ok (.dcmp .l, 1) := by decide +kernel
theorem dX3_include_5 : decode cX3_include 5 = .ok (.ifCond .le 19, 3) := by decide +kernel
theorem dX3_include_8 : decode cX3_include 8 = .ok (.aload_n 0, 1) := by decide +kernel
theorem dX3_include_9 : decode cX3_include 9 = .ok (.getfield 9, 3) := by decide +kernel
theorem dX3_include_12 : decode cX3_include 12 = .ok (.bipush 41, 2) := by decide +kernel
theorem dX3_include_14 : decode cX3_include 14 = .ok (.dup2, 1) := by decide +kernel
theorem dX3_include_15 : decode cX3_include 15 = .ok (.laload, 1) := by decide +kernel
theorem dX3_include_16 : decode cX3_include 16 = .ok (.ldc2_w 21, 3) := by decide +kernel
theorem dX3_include_19 : decode cX3_include 19 = .ok (.ladd, 1) := by decide +kernel
theorem dX3_include_20 : decode cX3_include 20 = .ok (.lastore, 1) := by decide +kernel
theorem dX3_include_21 : decode cX3_include 21 = .ok (.goto 66, 3) := by decide +kernel
theorem dX3_include_24 : decode cX3_include 24 = .ok (.dload_n 1, 1) := by decide +kernel
theorem dX3_include_25 : decode cX3_include 25 = .ok (.ldc2_w 23, 3) := by decide +kernel
theorem dX3_include_28 : decode cX3_include 28 = .ok (.dcmp .g, 1) := by decide +kernel
theorem dX3_include_29 : decode cX3_include 29 = .ok (.ifCond .ge 19, 3) := by decide +kernel
theorem dX3_include_32 : decode cX3_include 32 = .ok (.aload_n 0, 1) := by decide +kernel
theorem dX3_include_33 : decode cX3_include 33 = .ok (.getfield 9, 3) := by decide +kernel
theorem dX3_include_36 : decode cX3_include 36 = .ok (.bipush 41, 2) := by decide +kernel
theorem dX3_include_38 : decode cX3_include 38 = .ok (.dup2, 1) := by decide +kernel
theorem dX3_include_39 : decode cX3_include 39 = .ok (.laload, 1) := by decide +kernel
theorem dX3_include_40 : decode cX3_include 40 = .ok (.ldc2_w 21, 3) := by decide +kernel
theorem dX3_include_43 : decode cX3_include 43 = .ok (.lsub, 1) := by decide +kernel
theorem dX3_include_44 : decode cX3_include 44 = .ok (.lastore, 1) := by decide +kernel
theorem dX3_include_45 : decode cX3_include 45 = .ok (.goto 42, 3) := by decide +kernel
theorem dX3_include_48 : decode cX3_include 48 = .ok (.dload_n 1, 1) := by decide +kernel
theorem dX3_include_49 : decode cX3_include 49 = .ok (.ldc2_w 25, 3) := by decide +kernel
theorem dX3_include_52 : decode cX3_include 52 = .ok (.dcmp .l, 1) := by decide +kernel
theorem dX3_include_53 : decode cX3_include 53 = .ok (.ifCond .le 24, 3) := by decide +kernel
theorem dX3_include_56 : decode cX3_include 56 = .ok (.dload_n 1, 1) := by decide +kernel
theorem dX3_include_57 : decode cX3_include 57 = .ok (.ldc2_w 27, 3) := by decide +kernel
theorem dX3_include_60 : decode cX3_include 60 = .ok (.dcmp .g, 1) := by decide +kernel
theorem dX3_include_61 : decode cX3_include 61 = .ok (.ifCond .ge 16, 3) := by decide +kernel
theorem dX3_include_64 : decode cX3_include 64 = .ok (.aload_n 0, 1) := by decide +kernel
theorem dX3_include_65 : decode cX3_include 65 = .ok (.dload_n 1, 1) := by decide +kernel
theorem dX3_include_66 : decode cX3_include 66 = .ok (.bipush 21, 2) := by decide +kernel
theorem dX3_include_68 : decode cX3_include 68 = .ok (.ldc2_w 29, 3) := by decide +kernel
theorem dX3_include_71 : decode cX3_include 71 = .ok (.invokevirtual 31, 3) := by decide +kernel
theorem dX3_include_74 : decode cX3_include 74 = .ok (.goto 13, 3) := by decide +kernel
theorem dX3_include_77 : decode cX3_include 77 = .ok (.aload_n 0, 1) := by decide +kernel
theorem dX3_include_78 : decode cX3_include 78 = .ok (.dload_n 1, 1) := by decide +kernel
theorem dX3_include_79 : decode cX3_include 79 = .ok (.bipush 41, 2) := by decide +kernel
theorem dX3_include_81 : decode cX3_include 81 = .ok (.ldc2_w 35, 3) := by decide +kernel
theorem dX3_include_84 : decode cX3_include 84 = .ok (.invokevirtual 31, 3) := by decide +kernel
theorem dX3_include_87 : decode cX3_include 87 = .ok (.return_, 1) := by decide +kernel
theorem dX3_takeApart_0 : decode cX3_takeApart 0 = .ok (.dload_n 1, 1) := by decide +kernel
theorem dX3_takeApart_1 : decode cX3_takeApart 1 = .ok (.dstore 6, 2) := by decide +kernel
theorem dX3_takeApart_3 : decode cX3_takeApart 3 = .ok (.dload 4, 2) := by decide +kernel
theorem dX3_takeApart_5 : decode cX3_takeApart 5 = .ok (.dstore 8, 2) := by decide +kernel
theorem dX3_takeApart_7 : decode cX3_takeApart 7 = .ok (.iload_n 3, 1) := by decide +kernel
theorem dX3_takeApart_8 : decode cX3_takeApart 8 = .ok (.istore 10, 2) := by decide +kernel
theorem dX3_takeApart_10 : decode cX3_takeApart 10 = .ok (.iload 10, 2) := by decide +kernel
theorem dX3_takeApart_12 : decode cX3_takeApart 12 = .ok (.ifCond .lt 55, 3) := by decide +kernel
theorem dX3_takeApart_15 : decode cX3_takeApart 15 = .ok (.dload 6, 2) := by decide +kernel
theorem dX3_takeApart_17 : decode cX3_takeApart 17 = .ok (.dconst 0, 1) := by decide +kernel
theorem dX3_takeApart_18 : decode cX3_takeApart 18 = .ok (.dcmp .l, 1) := by decide +kernel
theorem dX3_takeApart_19 : decode cX3_takeApart 19 = .ok (.ifCond .eq 48, 3) := by decide +kernel
theorem dX3_takeApart_22 : decode cX3_takeApart 22 = .ok (.dload 6, 2) := by decide +kernel
theorem dX3_takeApart_24 : decode cX3_takeApart 24 = .ok (.dload 8, 2) := by decide +kernel
theorem dX3_takeApart_26 : decode cX3_takeApart 26 = .ok (.ddiv, 1) := by decide +kernel
theorem dX3_takeApart_27 : decode cX3_takeApart 27 = .ok (.d2l, 1) := by decide +kernel
theorem dX3_takeApart_28 : decode cX3_takeApart 28 = .ok (.lstore 11, 2) := by decide +kernel
theorem dX3_takeApart_30 : decode cX3_takeApart 30 = .ok (.aload_n 0, 1) := by decide +kernel
theorem dX3_takeApart_31 : decode cX3_takeApart 31 = .ok (.getfield 9, 3) := by decide +kernel
theorem dX3_takeApart_34 : decode cX3_takeApart 34 = .ok (.iload 10, 2) := by decide +kernel
theorem dX3_takeApart_36 : decode cX3_takeApart 36 = .ok (.dup2, 1) := by decide +kernel
theorem dX3_takeApart_37 : decode cX3_takeApart 37 = .ok (.laload, 1) := by decide +kernel
theorem dX3_takeApart_38 : decode cX3_takeApart 38 = .ok (.lload 11, 2) := by decide +kernel
theorem dX3_takeApart_40 : decode cX3_takeApart 40 = .ok (.ladd, 1) := by decide +kernel
theorem dX3_takeApart_41 : decode cX3_takeApart 41 = .ok (.lastore, 1) := by decide +kernel
theorem dX3_takeApart_42 : decode cX3_takeApart 42 = .ok (.dload 6, 2) := by decide +kernel
theorem dX3_takeApart_44 : decode cX3_takeApart 44 = .ok (.lload 11, 2) := by decide +kernel
theorem dX3_takeApart_46 : decode cX3_takeApart 46 = .ok (.l2d, 1) := by decide +kernel
theorem dX3_takeApart_47 : decode cX3_takeApart 47 = .ok (.dload 8, 2) := by decide +kernel
theorem dX3_takeApart_49 : decode cX3_takeApart 49 = .ok (.dmul, 1) := by decide +kernel
theorem dX3_takeApart_50 : decode cX3_takeApart 50 = .ok (.dsub, 1) := by decide +kernel
theorem dX3_takeApart_51 : decode cX3_takeApart 51 = .ok (.dstore 6, 2) := by decide +kernel
theorem dX3_takeApart_53 : decode cX3_takeApart 53 = .ok (.dload 8, 2) := by decide +kernel
theorem dX3_takeApart_55 : decode cX3_takeApart 55 = .ok (.ldc2_w 37, 3) := by decide +kernel
theorem dX3_takeApart_58 : decode cX3_takeApart 58 = .ok (.dmul, 1) := by decide +kernel
theorem dX3_takeApart_59 : decode cX3_takeApart 59 = .ok (.dstore 8, 2) := by decide +kernel
theorem dX3_takeApart_61 : decode cX3_takeApart 61 = .ok (.iinc 10 (-1), 3) := by decide +kernel
theorem dX3_takeApart_64 : decode cX3_takeApart 64 = .ok (.goto (-54), 3) := by decide +kernel
theorem dX3_takeApart_67 : decode cX3_takeApart 67 = .ok (.return_, 1) := by decide +kernel
set_option maxRecDepth 20000 in
theorem ggX3_wholeEighths_X3_carry : GoodIn wsX3_wholeEighths wsX3_carry := goodIn_r _ [8, 1, 9, 18] (by decide +kernel) (by decide +kernel)
set_option maxRecDepth 20000 in
theorem gX3_wholeEighths_X3_carry : GoodIn wsX3_wholeEighths (wsV RX3 39 RX3 yX3_carry wsX3_carry) := goodIn_app (goodIn_of _ (by decide +kernel)) ggX3_wholeEighths_X3_carry
set_option maxRecDepth 20000 in
theorem ggX3_wholeEighths_X3_turnSign : GoodIn wsX3_wholeEighths wsX3_turnSign := goodIn_r _ [13, 1, 18] (by decide +kernel) (by decide +kernel)
set_option maxRecDepth 20000 in
theorem gX3_wholeEighths_X3_turnSign : GoodIn wsX3_wholeEighths (wsV RX3 42 RX3 yX3_turnSign wsX3_turnSign) := goodIn_app (goodIn_of _ (by decide +kernel)) ggX3_wholeEighths_X3_turnSign
set_option maxRecDepth 20000 in
theorem ggX3_wholeEighths_X3_isBeyondLong : GoodIn wsX3_wholeEighths wsX3_isBeyondLong := goodIn_r _ [17, 1, 18] (by decide +kernel) (by decide +kernel)
set_option maxRecDepth 20000 in
theorem gX3_wholeEighths_X3_isBeyondLong : GoodIn wsX3_wholeEighths (wsV RX3 45 RX3 yX3_isBeyondLong wsX3_isBeyondLong) := goodIn_app (goodIn_of _ (by decide +kernel)) ggX3_wholeEighths_X3_isBeyondLong
theorem dX3_wholeEighths_0 : decode cX3_wholeEighths 0 = .ok (.aload_n 0, 1) := by decide +kernel
theorem dX3_wholeEighths_1 : decode cX3_wholeEighths 1 = .ok (.invokevirtual 39, 3) := by decide +kernel
theorem dX3_wholeEighths_4 : decode cX3_wholeEighths 4 = .ok (.aload_n 0, 1) := by decide +kernel
theorem dX3_wholeEighths_5 : decode cX3_wholeEighths 5 = .ok (.getfield 9, 3) := by decide +kernel
theorem dX3_wholeEighths_8 : decode cX3_wholeEighths 8 = .ok (.bipush 41, 2) := by decide +kernel
theorem dX3_wholeEighths_10 : decode cX3_wholeEighths 10 = .ok (.laload, 1) := by decide +kernel
theorem dX3_wholeEighths_11 : decode cX3_wholeEighths 11 = .ok (.lconst 0, 1) := by decide +kernel
theorem dX3_wholeEighths_12 : decode cX3_wholeEighths 12 = .ok (.lcmp, 1) := by decide +kernel
theorem dX3_wholeEighths_13 : decode cX3_wholeEighths 13 = .ok (.ifCond .ge 7, 3) := by decide +kernel
theorem dX3_wholeEighths_16 : decode cX3_wholeEighths 16 = .ok (.iconst 1, 1) := by decide +kernel
theorem dX3_wholeEighths_17 : decode cX3_wholeEighths 17 = .ok (.goto 4, 3) := by decide +kernel
theorem dX3_wholeEighths_20 : decode cX3_wholeEighths 20 = .ok (.iconst 0, 1) := by decide +kernel
theorem dX3_wholeEighths_21 : decode cX3_wholeEighths 21 = .ok (.istore_n 1, 1) := by decide +kernel
theorem dX3_wholeEighths_22 : decode cX3_wholeEighths 22 = .ok (.iload_n 1, 1) := by decide +kernel
theorem dX3_wholeEighths_23 : decode cX3_wholeEighths 23 = .ok (.ifCond .eq 11, 3) := by decide +kernel
theorem dX3_wholeEighths_26 : decode cX3_wholeEighths 26 = .ok (.aload_n 0, 1) := by decide +kernel
theorem dX3_wholeEighths_27 : decode cX3_wholeEighths 27 = .ok (.invokevirtual 42, 3) := by decide +kernel
theorem dX3_wholeEighths_30 : decode cX3_wholeEighths 30 = .ok (.aload_n 0, 1) := by decide +kernel
theorem dX3_wholeEighths_31 : decode cX3_wholeEighths 31 = .ok (.invokevirtual 39, 3) := by decide +kernel
theorem dX3_wholeEighths_34 : decode cX3_wholeEighths 34 = .ok (.aload_n 0, 1) := by decide +kernel
theorem dX3_wholeEighths_35 : decode cX3_wholeEighths 35 = .ok (.invokevirtual 45, 3) := by decide +kernel
theorem dX3_wholeEighths_38 : decode cX3_wholeEighths 38 = .ok (.ifCond .eq 17, 3) := by decide +kernel
theorem dX3_wholeEighths_41 : decode cX3_wholeEighths 41 = .ok (.iload_n 1, 1) := by decide +kernel
theorem dX3_wholeEighths_42 : decode cX3_wholeEighths 42 = .ok (.ifCond .eq 9, 3) := by decide +kernel
theorem dX3_wholeEighths_45 : decode cX3_wholeEighths 45 = .ok (.ldc2_w 49, 3) := by decide +kernel
theorem dX3_wholeEighths_48 : decode cX3_wholeEighths 48 = .ok (.goto 6, 3) := by decide +kernel
theorem dX3_wholeEighths_51 : decode cX3_wholeEighths 51 = .ok (.ldc2_w 51, 3) := by decide +kernel
theorem dX3_wholeEighths_54 : decode cX3_wholeEighths 54 = .ok (.lreturn, 1) := by decide +kernel
theorem dX3_wholeEighths_55 : decode cX3_wholeEighths 55 = .ok (.aload_n 0, 1) := by decide +kernel
theorem dX3_wholeEighths_56 : decode cX3_wholeEighths 56 = .ok (.getfield 9, 3) := by decide +kernel
theorem dX3_wholeEighths_59 : decode cX3_wholeEighths 59 = .ok (.bipush 22, 2) := by decide +kernel
theorem dX3_wholeEighths_61 : decode cX3_wholeEighths 61 = .ok (.laload, 1) := by decide +kernel
theorem dX3_wholeEighths_62 : decode cX3_wholeEighths 62 = .ok (.bipush 51, 2) := by decide +kernel
theorem dX3_wholeEighths_64 : decode cX3_wholeEighths 64 = .ok (.lshl, 1) := by decide +kernel
theorem dX3_wholeEighths_65 : decode cX3_wholeEighths 65 = .ok (.aload_n 0, 1) := by decide +kernel
theorem dX3_wholeEighths_66 : decode cX3_wholeEighths 66 = .ok (.getfield 9, 3) := by decide +kernel
theorem dX3_wholeEighths_69 : decode cX3_wholeEighths 69 = .ok (.bipush 21, 2) := by decide +kernel
theorem dX3_wholeEighths_71 : decode cX3_wholeEighths 71 = .ok (.laload, 1) := by decide +kernel
theorem dX3_wholeEighths_72 : decode cX3_wholeEighths 72 = .ok (.ladd, 1) := by decide +kernel
theorem dX3_wholeEighths_73 : decode cX3_wholeEighths 73 = .ok (.lstore_n 2, 1) := by decide +kernel
theorem dX3_wholeEighths_74 : decode cX3_wholeEighths 74 = .ok (.iload_n 1, 1) := by decide +kernel
theorem dX3_wholeEighths_75 : decode cX3_wholeEighths 75 = .ok (.ifCond .eq 8, 3) := by decide +kernel
theorem dX3_wholeEighths_78 : decode cX3_wholeEighths 78 = .ok (.lload_n 2, 1) := by decide +kernel
theorem dX3_wholeEighths_79 : decode cX3_wholeEighths 79 = .ok (.lneg, 1) := by decide +kernel
theorem dX3_wholeEighths_80 : decode cX3_wholeEighths 80 = .ok (.goto 4, 3) := by decide +kernel
theorem dX3_wholeEighths_83 : decode cX3_wholeEighths 83 = .ok (.lload_n 2, 1) := by decide +kernel
theorem dX3_wholeEighths_84 : decode cX3_wholeEighths 84 = .ok (.lreturn, 1) := by decide +kernel
theorem dX3_carry_0 : decode cX3_carry 0 = .ok (.iconst 0, 1) := by decide +kernel
theorem dX3_carry_1 : decode cX3_carry 1 = .ok (.istore_n 1, 1) := by decide +kernel
theorem dX3_carry_2 : decode cX3_carry 2 = .ok (.iload_n 1, 1) := by decide +kernel
theorem dX3_carry_3 : decode cX3_carry 3 = .ok (.bipush 41, 2) := by decide +kernel
theorem dX3_carry_5 : decode cX3_carry 5 = .ok (.if_icmp .ge 41, 3) := by decide +kernel
theorem dX3_carry_8 : decode cX3_carry 8 = .ok (.aload_n 0, 1) := by decide +kernel
theorem dX3_carry_9 : decode cX3_carry 9 = .ok (.getfield 9, 3) := by decide +kernel
theorem dX3_carry_12 : decode cX3_carry 12 = .ok (.iload_n 1, 1) := by decide +kernel
theorem dX3_carry_13 : decode cX3_carry 13 = .ok (.iconst 1, 1) := by decide +kernel
theorem dX3_carry_14 : decode cX3_carry 14 = .ok (.iadd, 1) := by decide +kernel
theorem dX3_carry_15 : decode cX3_carry 15 = .ok (.dup2, 1) := by decide +kernel
theorem dX3_carry_16 : decode cX3_carry 16 = .ok (.laload, 1) := by decide +kernel
theorem dX3_carry_17 : decode cX3_carry 17 = .ok (.aload_n 0, 1) := by decide +kernel
theorem dX3_carry_18 : decode cX3_carry 18 = .ok (.getfield 9, 3) := by decide +kernel
theorem dX3_carry_21 : decode cX3_carry 21 = .ok (.iload_n 1, 1) := by decide +kernel
theorem dX3_carry_22 : decode cX3_carry 22 = .ok (.laload, 1) := by decide +kernel
theorem dX3_carry_23 : decode cX3_carry 23 = .ok (.bipush 51, 2) := by decide +kernel
theorem dX3_carry_25 : decode cX3_carry 25 = .ok (.lshr, 1) := by decide +kernel
theorem dX3_carry_26 : decode cX3_carry 26 = .ok (.ladd, 1) := by decide +kernel
theorem dX3_carry_27 : decode cX3_carry 27 = .ok (.lastore, 1) := by decide +kernel
theorem dX3_carry_28 : decode cX3_carry 28 = .ok (.aload_n 0, 1) := by decide +kernel
theorem dX3_carry_29 : decode cX3_carry 29 = .ok (.getfield 9, 3) := by decide +kernel
theorem dX3_carry_32 : decode cX3_carry 32 = .ok (.iload_n 1, 1) := by decide +kernel
theorem dX3_carry_33 : decode cX3_carry 33 = .ok (.dup2, 1) := by decide +kernel
theorem dX3_carry_34 : decode cX3_carry 34 = .ok (.laload, 1) := by decide +kernel
theorem dX3_carry_35 : decode cX3_carry 35 = .ok (.ldc2_w 53, 3) := by decide +kernel
theorem dX3_carry_38 : decode cX3_carry 38 = .ok (.land, 1) := by decide +kernel
theorem dX3_carry_39 : decode cX3_carry 39 = .ok (.lastore, 1) := by decide +kernel
theorem dX3_carry_40 : decode cX3_carry 40 = .ok (.iinc 1 1, 3) := by decide +kernel
theorem dX3_carry_43 : decode cX3_carry 43 = .ok (.goto (-41), 3) := by decide +kernel
theorem dX3_carry_46 : decode cX3_carry 46 = .ok (.return_, 1) := by decide +kernel
theorem dX3_turnSign_0 : decode cX3_turnSign 0 = .ok (.iconst 0, 1) := by decide +kernel
theorem dX3_turnSign_1 : decode cX3_turnSign 1 = .ok (.istore_n 1, 1) := by decide +kernel
theorem dX3_turnSign_2 : decode cX3_turnSign 2 = .ok (.iload_n 1, 1) := by decide +kernel
theorem dX3_turnSign_3 : decode cX3_turnSign 3 = .ok (.bipush 41, 2) := by decide +kernel
theorem dX3_turnSign_5 : decode cX3_turnSign 5 = .ok (.if_icmp .gt 22, 3) := by decide +kernel
theorem dX3_turnSign_8 : decode cX3_turnSign 8 = .ok (.aload_n 0, 1) := by decide +kernel
theorem dX3_turnSign_9 : decode cX3_turnSign 9 = .ok (.getfield 9, 3) := by decide +kernel
theorem dX3_turnSign_12 : decode cX3_turnSign 12 = .ok (.iload_n 1, 1) := by decide +kernel
theorem dX3_turnSign_13 : decode cX3_turnSign 13 = .ok (.aload_n 0, 1) := by decide +kernel
theorem dX3_turnSign_14 : decode cX3_turnSign 14 = .ok (.getfield 9, 3) := by decide +kernel
theorem dX3_turnSign_17 : decode cX3_turnSign 17 = .ok (.iload_n 1, 1) := by decide +kernel
theorem dX3_turnSign_18 : decode cX3_turnSign 18 = .ok (.laload, 1) := by decide +kernel
theorem dX3_turnSign_19 : decode cX3_turnSign 19 = .ok (.lneg, 1) := by decide +kernel
theorem dX3_turnSign_20 : decode cX3_turnSign 20 = .ok (.lastore, 1) := by decide +kernel
theorem dX3_turnSign_21 : decode cX3_turnSign 21 = .ok (.iinc 1 1, 3) := by decide +kernel
theorem dX3_turnSign_24 : decode cX3_turnSign 24 = .ok (.goto (-22), 3) := by decide +kernel
theorem dX3_turnSign_27 : decode cX3_turnSign 27 = .ok (.return_, 1) := by decide +kernel
theorem dX3_isBeyondLong_0 : decode cX3_isBeyondLong 0 = .ok (.aload_n 0, 1) := by decide +kernel
theorem dX3_isBeyondLong_1 : decode cX3_isBeyondLong 1 = .ok (.getfield 9, 3) := by decide +kernel
theorem dX3_isBeyondLong_4 : decode cX3_isBeyondLong 4 = .ok (.bipush 22, 2) := by decide +kernel
theorem dX3_isBeyondLong_6 : decode cX3_isBeyondLong 6 = .ok (.laload, 1) := by decide +kernel
theorem dX3_isBeyondLong_7 : decode cX3_isBeyondLong 7 = .ok (.bipush 12, 2) := by decide +kernel
theorem dX3_isBeyondLong_9 : decode cX3_isBeyondLong 9 = .ok (.lshr, 1) := by decide +kernel
theorem dX3_isBeyondLong_10 : decode cX3_isBeyondLong 10 = .ok (.lconst 0, 1) := by decide +kernel
theorem dX3_isBeyondLong_11 : decode cX3_isBeyondLong 11 = .ok (.lcmp, 1) := by decide +kernel
theorem dX3_isBeyondLong_12 : decode cX3_isBeyondLong 12 = .ok (.ifCond .eq 7, 3) := by decide +kernel
theorem dX3_isBeyondLong_15 : decode cX3_isBeyondLong 15 = .ok (.iconst 1, 1) := by decide +kernel
theorem dX3_isBeyondLong_16 : decode cX3_isBeyondLong 16 = .ok (.goto 4, 3) := by decide +kernel
theorem dX3_isBeyondLong_19 : decode cX3_isBeyondLong 19 = .ok (.iconst 0, 1) := by decide +kernel
theorem dX3_isBeyondLong_20 : decode cX3_isBeyondLong 20 = .ok (.istore_n 1, 1) := by decide +kernel
theorem dX3_isBeyondLong_21 : decode cX3_isBeyondLong 21 = .ok (.bipush 23, 2) := by decide +kernel
theorem dX3_isBeyondLong_23 : decode cX3_isBeyondLong 23 = .ok (.istore_n 2, 1) := by decide +kernel
theorem dX3_isBeyondLong_24 : decode cX3_isBeyondLong 24 = .ok (.iload_n 2, 1) := by decide +kernel
theorem dX3_isBeyondLong_25 : decode cX3_isBeyondLong 25 = .ok (.bipush 41, 2) := by decide +kernel
theorem dX3_isBeyondLong_27 : decode cX3_isBeyondLong 27 = .ok (.if_icmp .gt 30, 3) := by decide +kernel
theorem dX3_isBeyondLong_30 : decode cX3_isBeyondLong 30 = .ok (.iload_n 1, 1) := by decide +kernel
theorem dX3_isBeyondLong_31 : decode cX3_isBeyondLong 31 = .ok (.ifCond .ne 14, 3) := by decide +kernel
theorem dX3_isBeyondLong_34 : decode cX3_isBeyondLong 34 = .ok (.aload_n 0, 1) := by decide +kernel
theorem dX3_isBeyondLong_35 : decode cX3_isBeyondLong 35 = .ok (.getfield 9, 3) := by decide +kernel
theorem dX3_isBeyondLong_38 : decode cX3_isBeyondLong 38 = .ok (.iload_n 2, 1) := by decide +kernel
theorem dX3_isBeyondLong_39 : decode cX3_isBeyondLong 39 = .ok (.laload, 1) := by decide +kernel
theorem dX3_isBeyondLong_40 : decode cX3_isBeyondLong 40 = .ok (.lconst 0, 1) := by decide +kernel
theorem dX3_isBeyondLong_41 : decode cX3_isBeyondLong 41 = .ok (.lcmp, 1) := by decide +kernel
theorem dX3_isBeyondLong_42 : decode cX3_isBeyondLong 42 = .ok (.ifCond .eq 7, 3) := by decide +kernel
theorem dX3_isBeyondLong_45 : decode cX3_isBeyondLong 45 = .ok (.iconst 1, 1) := by decide +kernel
theorem dX3_isBeyondLong_46 : decode cX3_isBeyondLong 46 = .ok (.goto 4, 3) := by decide +kernel
theorem dX3_isBeyondLong_49 : decode cX3_isBeyondLong 49 = .ok (.iconst 0, 1) := by decide +kernel
theorem dX3_isBeyondLong_50 : decode cX3_isBeyondLong 50 = .ok (.istore_n 1, 1) := by decide +kernel
theorem dX3_isBeyondLong_51 : decode cX3_isBeyondLong 51 = .ok (.iinc 2 1, 3) := by decide +kernel
theorem dX3_isBeyondLong_54 : decode cX3_isBeyondLong 54 = .ok (.goto (-30), 3) := by decide +kernel
theorem dX3_isBeyondLong_57 : decode cX3_isBeyondLong 57 = .ok (.iload_n 1, 1) := by decide +kernel
theorem dX3_isBeyondLong_58 : decode cX3_isBeyondLong 58 = .ok (.ireturn, 1) := by decide +kernel
set_option maxRecDepth 20000 in
theorem ggX1_init_X0_init : GoodIn wsX1_init wsX0_init := goodIn_r _ [16, 17, 2, 3, 18, 19, 20, 21, 22, 23, 24, 25, 26, 27, 28, 35, 36, 37, 38] (by decide +kernel) (by decide +kernel)
set_option maxRecDepth 20000 in
theorem gX1_init_X0_init : GoodIn wsX1_init (wsX0_init) := ggX1_init_X0_init
set_option maxRecDepth 20000 in
theorem ggX1_init_X3_init : GoodIn wsX1_init wsX3_init := goodIn_r _ [31, 32, 2, 3, 33, 34, 43] (by decide +kernel) (by decide +kernel)
set_option maxRecDepth 20000 in
theorem gX1_init_X3_init : GoodIn wsX1_init (wsX3_init) := ggX1_init_X3_init
theorem dX1_init_0 : decode cX1_init 0 = .ok (.aload_n 0, 1) := by decide +kernel
theorem dX1_init_1 : decode cX1_init 1 = .ok (.invokespecial 3, 3) := by decide +kernel
theorem dX1_init_4 : decode cX1_init 4 = .ok (.aload_n 0, 1) := by decide +kernel
theorem dX1_init_5 : decode cX1_init 5 = .ok (.new 9, 3) := by decide +kernel
theorem dX1_init_8 : decode cX1_init 8 = .ok (.dup, 1) := by decide +kernel
theorem dX1_init_9 : decode cX1_init 9 = .ok (.invokespecial 11, 3) := by decide +kernel
theorem dX1_init_12 : decode cX1_init 12 = .ok (.putfield 12, 3) := by decide +kernel
theorem dX1_init_15 : decode cX1_init 15 = .ok (.aload_n 0, 1) := by decide +kernel
theorem dX1_init_16 : decode cX1_init 16 = .ok (.new 9, 3) := by decide +kernel
theorem dX1_init_19 : decode cX1_init 19 = .ok (.dup, 1) := by decide +kernel
theorem dX1_init_20 : decode cX1_init 20 = .ok (.invokespecial 11, 3) := by decide +kernel
theorem dX1_init_23 : decode cX1_init 23 = .ok (.putfield 16, 3) := by decide +kernel
theorem dX1_init_26 : decode cX1_init 26 = .ok (.aload_n 0, 1) := by decide +kernel
theorem dX1_init_27 : decode cX1_init 27 = .ok (.new 19, 3) := by decide +kernel
theorem dX1_init_30 : decode cX1_init 30 = .ok (.dup, 1) := by decide +kernel
theorem dX1_init_31 : decode cX1_init 31 = .ok (.invokespecial 21, 3) := by decide +kernel
theorem dX1_init_34 : decode cX1_init 34 = .ok (.putfield 22, 3) := by decide +kernel
theorem dX1_init_37 : decode cX1_init 37 = .ok (.aload_n 0, 1) := by decide +kernel
theorem dX1_init_38 : decode cX1_init 38 = .ok (.iconst 0, 1) := by decide +kernel
theorem dX1_init_39 : decode cX1_init 39 = .ok (.putfield 26, 3) := by decide +kernel
theorem dX1_init_42 : decode cX1_init 42 = .ok (.return_, 1) := by decide +kernel
theorem dX1_entry_0 : decode cX1_entry 0 = .ok (.aload_n 0, 1) := by decide +kernel
theorem dX1_entry_1 : decode cX1_entry 1 = .ok (.getfield 26, 3) := by decide +kernel
theorem dX1_entry_4 : decode cX1_entry 4 = .ok (.bipush 6, 2) := by decide +kernel
theorem dX1_entry_6 : decode cX1_entry 6 = .ok (.if_icmp .lt 13, 3) := by decide +kernel
theorem dX1_entry_9 : decode cX1_entry 9 = .ok (.new 30, 3) := by decide +kernel
theorem dX1_entry_12 : decode cX1_entry 12 = .ok (.dup, 1) := by decide +kernel
theorem dX1_entry_13 : decode cX1_entry 13 = .ok (.ldc 32, 2) := by decide +kernel
theorem dX1_entry_15 : decode cX1_entry 15 = .ok (.invokespecial 34, 3) := by decide +kernel
theorem dX1_entry_18 : decode cX1_entry 18 = .ok (.athrow, 1) := by decide +kernel
theorem dX1_entry_19 : decode cX1_entry 19 = .ok (.aload_n 0, 1) := by decide +kernel
theorem dX1_entry_20 : decode cX1_entry 20 = .ok (.getfield 26, 3) := by decide +kernel
theorem dX1_entry_23 : decode cX1_entry 23 = .ok (.istore_n 1, 1) := by decide +kernel
theorem dX1_entry_24 : decode cX1_entry 24 = .ok (.aload_n 0, 1) := by decide +kernel
theorem dX1_entry_25 : decode cX1_entry 25 = .ok (.dup, 1) := by decide +kernel
theorem dX1_entry_26 : decode cX1_entry 26 = .ok (.getfield 26, 3) := by decide +kernel
theorem dX1_entry_29 : decode cX1_entry 29 = .ok (.iconst 1, 1) := by decide +kernel
theorem dX1_entry_30 : decode cX1_entry 30 = .ok (.iadd, 1) := by decide +kernel
theorem dX1_entry_31 : decode cX1_entry 31 = .ok (.putfield 26, 3) := by decide +kernel
theorem dX1_entry_34 : decode cX1_entry 34 = .ok (.iload_n 1, 1) := by decide +kernel
theorem dX1_entry_35 : decode cX1_entry 35 = .ok (.ireturn, 1) := by decide +kernel
set_option maxRecDepth 20000 in
theorem ggX1_mark_X1_requireEntry : GoodIn wsX1_mark wsX1_requireEntry := goodIn_ca (goodIn_r _ [6, 7, 8, 9, 23, 24, 25, 26] (by decide +kernel) (by decide +kernel)) (goodIn_sub (fun _ h => List.mem_cons_of_mem _ (List.mem_append_right _ h)) (by decide +kernel))
set_option maxRecDepth 20000 in
theorem gX1_mark_X1_requireEntry : GoodIn wsX1_mark (wsV RX1 37 RX1 yX1_requireEntry wsX1_requireEntry) := goodIn_app (goodIn_of _ (by decide +kernel)) ggX1_mark_X1_requireEntry
set_option maxRecDepth 20000 in
theorem ggX1_mark_X1_requireSeat : GoodIn wsX1_mark wsX1_requireSeat := goodIn_ca (goodIn_r _ [12, 7, 8] (by decide +kernel) (by decide +kernel)) (goodIn_sub (fun _ h => List.mem_cons_of_mem _ (List.mem_append_right _ h)) (by decide +kernel))
set_option maxRecDepth 20000 in
theorem gX1_mark_X1_requireSeat : GoodIn wsX1_mark (va_wsS RX1 41 yX1_requireSeat wsX1_requireSeat) := goodIn_app (goodIn_of _ (by decide +kernel)) ggX1_mark_X1_requireSeat
set_option maxRecDepth 20000 in
theorem ggX1_mark_X1_cellOf : GoodIn wsX1_mark wsX1_cellOf := goodIn_r _ [15] (by decide +kernel) (by decide +kernel)
set_option maxRecDepth 20000 in
theorem gX1_mark_X1_cellOf : GoodIn wsX1_mark (va_wsS RX1 44 yX1_cellOf wsX1_cellOf) := goodIn_app (goodIn_of _ (by decide +kernel)) ggX1_mark_X1_cellOf
set_option maxRecDepth 20000 in
theorem ggX1_mark_X0_writeDouble : GoodIn wsX1_mark wsX0_writeDouble := goodIn_r _ [20, 21, 22, 27, 28, 29, 30] (by decide +kernel) (by decide +kernel)
set_option maxRecDepth 20000 in
theorem gX1_mark_X0_writeDouble : GoodIn wsX1_mark (wsV RX1 48 RX0 yX0_writeDouble wsX0_writeDouble) := goodIn_app (goodIn_of _ (by decide +kernel)) ggX1_mark_X0_writeDouble
theorem dX1_mark_0 : decode cX1_mark 0 = .ok (.aload_n 0, 1) := by decide +kernel
theorem dX1_mark_1 : decode cX1_mark 1 = .ok (.iload_n 1, 1) := by decide +kernel
theorem dX1_mark_2 : decode cX1_mark 2 = .ok (.invokevirtual 37, 3) := by decide +kernel
theorem dX1_mark_5 : decode cX1_mark 5 = .ok (.iload_n 2, 1) := by decide +kernel
theorem dX1_mark_6 : decode cX1_mark 6 = .ok (.invokestatic 41, 3) := by decide +kernel
theorem dX1_mark_9 : decode cX1_mark 9 = .ok (.aload_n 0, 1) := by decide +kernel
theorem dX1_mark_10 : decode cX1_mark 10 = .ok (.getfield 12, 3) := by decide +kernel
theorem dX1_mark_13 : decode cX1_mark 13 = .ok (.iload_n 1, 1) := by decide +kernel
theorem dX1_mark_14 : decode cX1_mark 14 = .ok (.iload_n 2, 1) := by decide +kernel
theorem dX1_mark_15 : decode cX1_mark 15 = .ok (.invokestatic 44, 3) := by decide +kernel
theorem dX1_mark_18 : decode cX1_mark 18 = .ok (.dload_n 3, 1) := by decide +kernel
theorem dX1_mark_19 : decode cX1_mark 19 = .ok (.invokevirtual 48, 3) := by decide +kernel
theorem dX1_mark_22 : decode cX1_mark 22 = .ok (.return_, 1) := by decide +kernel
set_option maxRecDepth 20000 in
theorem ggX1_points_X1_requireEntry : GoodIn wsX1_points wsX1_requireEntry := goodIn_ca (goodIn_r _ [6, 7, 8, 9, 31, 32, 33, 34] (by decide +kernel) (by decide +kernel)) (goodIn_sub (fun _ h => List.mem_cons_of_mem _ (List.mem_append_right _ h)) (by decide +kernel))
set_option maxRecDepth 20000 in
theorem gX1_points_X1_requireEntry : GoodIn wsX1_points (wsV RX1 37 RX1 yX1_requireEntry wsX1_requireEntry) := goodIn_app (goodIn_of _ (by decide +kernel)) ggX1_points_X1_requireEntry
set_option maxRecDepth 20000 in
theorem ggX1_points_X1_requireSeat : GoodIn wsX1_points wsX1_requireSeat := goodIn_ca (goodIn_r _ [12, 7, 8] (by decide +kernel) (by decide +kernel)) (goodIn_sub (fun _ h => List.mem_cons_of_mem _ (List.mem_append_right _ h)) (by decide +kernel))
set_option maxRecDepth 20000 in
theorem gX1_points_X1_requireSeat : GoodIn wsX1_points (va_wsS RX1 41 yX1_requireSeat wsX1_requireSeat) := goodIn_app (goodIn_of _ (by decide +kernel)) ggX1_points_X1_requireSeat
set_option maxRecDepth 20000 in
theorem ggX1_points_X1_cellOf : GoodIn wsX1_points wsX1_cellOf := goodIn_r _ [15] (by decide +kernel) (by decide +kernel)
set_option maxRecDepth 20000 in
theorem gX1_points_X1_cellOf : GoodIn wsX1_points (va_wsS RX1 44 yX1_cellOf wsX1_cellOf) := goodIn_app (goodIn_of _ (by decide +kernel)) ggX1_points_X1_cellOf
set_option maxRecDepth 20000 in
theorem ggX1_points_X0_writeFloat : GoodIn wsX1_points wsX0_writeFloat := goodIn_r _ [20, 21, 22, 23, 19, 24, 25, 26, 27, 28, 29, 30, 35, 36, 37, 38] (by decide +kernel) (by decide +kernel)
set_option maxRecDepth 20000 in
theorem gX1_points_X0_writeFloat : GoodIn wsX1_points (wsV RX1 52 RX0 yX0_writeFloat wsX0_writeFloat) := goodIn_app (goodIn_of _ (by decide +kernel)) ggX1_points_X0_writeFloat
theorem dX1_points_0 : decode cX1_points 0 = .ok (.aload_n 0, 1) := by decide +kernel
theorem dX1_points_1 : decode cX1_points 1 = .ok (.iload_n 1, 1) := by decide +kernel
theorem dX1_points_2 : decode cX1_points 2 = .ok (.invokevirtual 37, 3) := by decide +kernel
theorem dX1_points_5 : decode cX1_points 5 = .ok (.iload_n 2, 1) := by decide +kernel
theorem dX1_points_6 : decode cX1_points 6 = .ok (.invokestatic 41, 3) := by decide +kernel
theorem dX1_points_9 : decode cX1_points 9 = .ok (.aload_n 0, 1) := by decide +kernel
theorem dX1_points_10 : decode cX1_points 10 = .ok (.getfield 16, 3) := by decide +kernel
theorem dX1_points_13 : decode cX1_points 13 = .ok (.iload_n 1, 1) := by decide +kernel
theorem dX1_points_14 : decode cX1_points 14 = .ok (.iload_n 2, 1) := by decide +kernel
theorem dX1_points_15 : decode cX1_points 15 = .ok (.invokestatic 44, 3) := by decide +kernel
theorem dX1_points_18 : decode cX1_points 18 = .ok (.fload_n 3, 1) := by decide +kernel
theorem dX1_points_19 : decode cX1_points 19 = .ok (.invokevirtual 52, 3) := by decide +kernel
theorem dX1_points_22 : decode cX1_points 22 = .ok (.return_, 1) := by decide +kernel
set_option maxRecDepth 20000 in
theorem ggX1_bar_X1_requireSeat : GoodIn wsX1_bar wsX1_requireSeat := goodIn_ca (goodIn_r _ [5, 6, 7] (by decide +kernel) (by decide +kernel)) (goodIn_sub (fun _ h => List.mem_cons_of_mem _ (List.mem_append_right _ h)) (by decide +kernel))
set_option maxRecDepth 20000 in
theorem gX1_bar_X1_requireSeat : GoodIn wsX1_bar (va_wsS RX1 41 yX1_requireSeat wsX1_requireSeat) := goodIn_app (goodIn_of _ (by decide +kernel)) ggX1_bar_X1_requireSeat
set_option maxRecDepth 20000 in
theorem ggX1_bar_X1_cellOf : GoodIn wsX1_bar wsX1_cellOf := goodIn_r _ [10] (by decide +kernel) (by decide +kernel)
set_option maxRecDepth 20000 in
theorem gX1_bar_X1_cellOf : GoodIn wsX1_bar (va_wsS RX1 44 yX1_cellOf wsX1_cellOf) := goodIn_app (goodIn_of _ (by decide +kernel)) ggX1_bar_X1_cellOf
set_option maxRecDepth 20000 in
theorem ggX1_bar_X0_writeDouble : GoodIn wsX1_bar wsX0_writeDouble := goodIn_r _ [15, 16, 17, 22, 23, 24, 25] (by decide +kernel) (by decide +kernel)
set_option maxRecDepth 20000 in
theorem gX1_bar_X0_writeDouble : GoodIn wsX1_bar (wsV RX1 48 RX0 yX0_writeDouble wsX0_writeDouble) := goodIn_app (goodIn_of _ (by decide +kernel)) ggX1_bar_X0_writeDouble
theorem dX1_bar_0 : decode cX1_bar 0 = .ok (.iload_n 1, 1) := by decide +kernel
theorem dX1_bar_1 : decode cX1_bar 1 = .ok (.invokestatic 41, 3) := by decide +kernel
theorem dX1_bar_4 : decode cX1_bar 4 = .ok (.aload_n 0, 1) := by decide +kernel
theorem dX1_bar_5 : decode cX1_bar 5 = .ok (.getfield 12, 3) := by decide +kernel
theorem dX1_bar_8 : decode cX1_bar 8 = .ok (.bipush 6, 2) := by decide +kernel
theorem dX1_bar_10 : decode cX1_bar 10 = .ok (.iload_n 1, 1) := by decide +kernel
theorem dX1_bar_11 : decode cX1_bar 11 = .ok (.invokestatic 44, 3) := by decide +kernel
theorem dX1_bar_14 : decode cX1_bar 14 = .ok (.dload_n 2, 1) := by decide +kernel
theorem dX1_bar_15 : decode cX1_bar 15 = .ok (.invokevirtual 48, 3) := by decide +kernel
theorem dX1_bar_18 : decode cX1_bar 18 = .ok (.return_, 1) := by decide +kernel
set_option maxRecDepth 20000 in
theorem ggX1_line_X1_requireSeat : GoodIn wsX1_line wsX1_requireSeat := goodIn_ca (goodIn_r _ [5, 6, 7] (by decide +kernel) (by decide +kernel)) (goodIn_sub (fun _ h => List.mem_cons_of_mem _ (List.mem_append_right _ h)) (by decide +kernel))
set_option maxRecDepth 20000 in
theorem gX1_line_X1_requireSeat : GoodIn wsX1_line (va_wsS RX1 41 yX1_requireSeat wsX1_requireSeat) := goodIn_app (goodIn_of _ (by decide +kernel)) ggX1_line_X1_requireSeat
set_option maxRecDepth 20000 in
theorem ggX1_line_X1_cellOf : GoodIn wsX1_line wsX1_cellOf := goodIn_r _ [10] (by decide +kernel) (by decide +kernel)
set_option maxRecDepth 20000 in
theorem gX1_line_X1_cellOf : GoodIn wsX1_line (va_wsS RX1 44 yX1_cellOf wsX1_cellOf) := goodIn_app (goodIn_of _ (by decide +kernel)) ggX1_line_X1_cellOf
set_option maxRecDepth 20000 in
theorem ggX1_line_X0_writeFloat : GoodIn wsX1_line wsX0_writeFloat := goodIn_r _ [15, 16, 17, 18, 14, 19, 20, 21, 22, 23, 24, 25, 30, 31, 32, 33] (by decide +kernel) (by decide +kernel)
set_option maxRecDepth 20000 in
theorem gX1_line_X0_writeFloat : GoodIn wsX1_line (wsV RX1 52 RX0 yX0_writeFloat wsX0_writeFloat) := goodIn_app (goodIn_of _ (by decide +kernel)) ggX1_line_X0_writeFloat
theorem dX1_line_0 : decode cX1_line 0 = .ok (.iload_n 1, 1) := by decide +kernel
theorem dX1_line_1 : decode cX1_line 1 = .ok (.invokestatic 41, 3) := by decide +kernel
theorem dX1_line_4 : decode cX1_line 4 = .ok (.aload_n 0, 1) := by decide +kernel
theorem dX1_line_5 : decode cX1_line 5 = .ok (.getfield 16, 3) := by decide +kernel
theorem dX1_line_8 : decode cX1_line 8 = .ok (.bipush 6, 2) := by decide +kernel
theorem dX1_line_10 : decode cX1_line 10 = .ok (.iload_n 1, 1) := by decide +kernel
theorem dX1_line_11 : decode cX1_line 11 = .ok (.invokestatic 44, 3) := by decide +kernel
theorem dX1_line_14 : decode cX1_line 14 = .ok (.fload_n 2, 1) := by decide +kernel
theorem dX1_line_15 : decode cX1_line 15 = .ok (.invokevirtual 52, 3) := by decide +kernel
theorem dX1_line_18 : decode cX1_line 18 = .ok (.return_, 1) := by decide +kernel
set_option maxRecDepth 20000 in
theorem ggX1_clear_X1_requireEntryOrNone : GoodIn wsX1_clear wsX1_requireEntryOrNone := goodIn_ca (goodIn_r _ [5, 6, 7, 8, 4, 9, 10, 11, 12, 34, 35, 36, 37] (by decide +kernel) (by decide +kernel)) (goodIn_sub (fun _ h => List.mem_cons_of_mem _ (List.mem_append_right _ h)) (by decide +kernel))
set_option maxRecDepth 20000 in
theorem gX1_clear_X1_requireEntryOrNone : GoodIn wsX1_clear (wsV RX1 56 RX1 yX1_requireEntryOrNone wsX1_requireEntryOrNone) := goodIn_app (goodIn_of _ (by decide +kernel)) ggX1_clear_X1_requireEntryOrNone
set_option maxRecDepth 20000 in
theorem ggX1_clear_X1_requireSeat : GoodIn wsX1_clear wsX1_requireSeat := goodIn_ca (goodIn_r _ [15, 10, 11] (by decide +kernel) (by decide +kernel)) (goodIn_sub (fun _ h => List.mem_cons_of_mem _ (List.mem_append_right _ h)) (by decide +kernel))
set_option maxRecDepth 20000 in
theorem gX1_clear_X1_requireSeat : GoodIn wsX1_clear (va_wsS RX1 41 yX1_requireSeat wsX1_requireSeat) := goodIn_app (goodIn_of _ (by decide +kernel)) ggX1_clear_X1_requireSeat
set_option maxRecDepth 20000 in
theorem ggX1_clear_X1_panel : GoodIn wsX1_clear wsX1_panel := goodIn_r _ [19, 20, 21, 34, 35, 36, 37] (by decide +kernel) (by decide +kernel)
set_option maxRecDepth 20000 in
theorem gX1_clear_X1_panel : GoodIn wsX1_clear (wsV RX1 59 RX1 yX1_panel wsX1_panel) := goodIn_app (goodIn_of _ (by decide +kernel)) ggX1_clear_X1_panel
set_option maxRecDepth 20000 in
theorem ggX1_clear_X1_rowOf : GoodIn wsX1_clear wsX1_rowOf := goodIn_r _ [24] (by decide +kernel) (by decide +kernel)
set_option maxRecDepth 20000 in
theorem gX1_clear_X1_rowOf : GoodIn wsX1_clear (va_wsS RX1 63 yX1_rowOf wsX1_rowOf) := goodIn_app (goodIn_of _ (by decide +kernel)) ggX1_clear_X1_rowOf
set_option maxRecDepth 20000 in
theorem ggX1_clear_X1_cellOf : GoodIn wsX1_clear wsX1_cellOf := goodIn_r _ [27] (by decide +kernel) (by decide +kernel)
set_option maxRecDepth 20000 in
theorem gX1_clear_X1_cellOf : GoodIn wsX1_clear (va_wsS RX1 44 yX1_cellOf wsX1_cellOf) := goodIn_app (goodIn_of _ (by decide +kernel)) ggX1_clear_X1_cellOf
set_option maxRecDepth 20000 in
theorem ggX1_clear_X0_erase : GoodIn wsX1_clear wsX0_erase := goodIn_r _ [32, 33, 38, 39, 40, 41] (by decide +kernel) (by decide +kernel)
set_option maxRecDepth 20000 in
theorem gX1_clear_X0_erase : GoodIn wsX1_clear (wsV RX1 67 RX0 yX0_erase wsX0_erase) := goodIn_app (goodIn_of _ (by decide +kernel)) ggX1_clear_X0_erase
theorem dX1_clear_0 : decode cX1_clear 0 = .ok (.aload_n 0, 1) := by decide +kernel
theorem dX1_clear_1 : decode cX1_clear 1 = .ok (.iload_n 2, 1) := by decide +kernel
theorem dX1_clear_2 : decode cX1_clear 2 = .ok (.invokevirtual 56, 3) := by decide +kernel
theorem dX1_clear_5 : decode cX1_clear 5 = .ok (.iload_n 3, 1) := by decide +kernel
theorem dX1_clear_6 : decode cX1_clear 6 = .ok (.invokestatic 41, 3) := by decide +kernel
theorem dX1_clear_9 : decode cX1_clear 9 = .ok (.aload_n 0, 1) := by decide +kernel
theorem dX1_clear_10 : decode cX1_clear 10 = .ok (.iload_n 1, 1) := by decide +kernel
theorem dX1_clear_11 : decode cX1_clear 11 = .ok (.invokevirtual 59, 3) := by decide +kernel
theorem dX1_clear_14 : decode cX1_clear 14 = .ok (.iload_n 2, 1) := by decide +kernel
theorem dX1_clear_15 : decode cX1_clear 15 = .ok (.invokestatic 63, 3) := by decide +kernel
theorem dX1_clear_18 : decode cX1_clear 18 = .ok (.iload_n 3, 1) := by decide +kernel
theorem dX1_clear_19 : decode cX1_clear 19 = .ok (.invokestatic 44, 3) := by decide +kernel
theorem dX1_clear_22 : decode cX1_clear 22 = .ok (.invokevirtual 67, 3) := by decide +kernel
theorem dX1_clear_25 : decode cX1_clear 25 = .ok (.ireturn, 1) := by decide +kernel
set_option maxRecDepth 20000 in
theorem ggX1_holds_X1_requireEntry : GoodIn wsX1_holds wsX1_requireEntry := goodIn_ca (goodIn_r _ [5, 6, 7, 8, 39, 40, 41, 42] (by decide +kernel) (by decide +kernel)) (goodIn_sub (fun _ h => List.mem_cons_of_mem _ (List.mem_append_left _ (List.mem_append_right _ h))) (by decide +kernel))
set_option maxRecDepth 20000 in
theorem gX1_holds_X1_requireEntry : GoodIn wsX1_holds (wsV RX1 37 RX1 yX1_requireEntry wsX1_requireEntry) := goodIn_app (goodIn_of _ (by decide +kernel)) ggX1_holds_X1_requireEntry
set_option maxRecDepth 20000 in
theorem ggX1_holds_X1_requireSeat : GoodIn wsX1_holds wsX1_requireSeat := goodIn_ca (goodIn_r _ [11, 6, 7] (by decide +kernel) (by decide +kernel)) (goodIn_sub (fun _ h => List.mem_cons_of_mem _ (List.mem_append_left _ (List.mem_append_right _ h))) (by decide +kernel))
set_option maxRecDepth 20000 in
theorem gX1_holds_X1_requireSeat : GoodIn wsX1_holds (va_wsS RX1 41 yX1_requireSeat wsX1_requireSeat) := goodIn_app (goodIn_of _ (by decide +kernel)) ggX1_holds_X1_requireSeat
set_option maxRecDepth 20000 in
theorem ggX1_holds_X1_requireBelow : GoodIn wsX1_holds wsX1_requireBelow := goodIn_ca (goodIn_r _ [14, 15, 16] (by decide +kernel) (by decide +kernel)) (goodIn_sub (fun _ h => List.mem_cons_of_mem _ (List.mem_append_right _ h)) (by decide +kernel))
set_option maxRecDepth 20000 in
theorem gX1_holds_X1_requireBelow : GoodIn wsX1_holds (va_wsS RX1 71 yX1_requireBelow wsX1_requireBelow) := goodIn_app (goodIn_of _ (by decide +kernel)) ggX1_holds_X1_requireBelow
set_option maxRecDepth 20000 in
theorem ggX1_holds_X1_panel : GoodIn wsX1_holds wsX1_panel := goodIn_r _ [20, 21, 22, 39, 40, 41, 42] (by decide +kernel) (by decide +kernel)
set_option maxRecDepth 20000 in
theorem gX1_holds_X1_panel : GoodIn wsX1_holds (wsV RX1 59 RX1 yX1_panel wsX1_panel) := goodIn_app (goodIn_of _ (by decide +kernel)) ggX1_holds_X1_panel
set_option maxRecDepth 20000 in
theorem ggX1_holds_X0_isSo : GoodIn wsX1_holds wsX0_isSo := goodIn_r _ [27, 28, 4, 29, 30, 31, 32, 26, 33, 34, 35, 36, 37, 38, 43, 44, 45, 46] (by decide +kernel) (by decide +kernel)
set_option maxRecDepth 20000 in
theorem gX1_holds_X0_isSo : GoodIn wsX1_holds (wsV RX1 75 RX0 yX0_isSo wsX0_isSo) := goodIn_app (goodIn_of _ (by decide +kernel)) ggX1_holds_X0_isSo
theorem dX1_holds_0 : decode cX1_holds 0 = .ok (.aload_n 0, 1) := by decide +kernel
theorem dX1_holds_1 : decode cX1_holds 1 = .ok (.iload_n 2, 1) := by decide +kernel
theorem dX1_holds_2 : decode cX1_holds 2 = .ok (.invokevirtual 37, 3) := by decide +kernel
theorem dX1_holds_5 : decode cX1_holds 5 = .ok (.iload_n 3, 1) := by decide +kernel
theorem dX1_holds_6 : decode cX1_holds 6 = .ok (.invokestatic 41, 3) := by decide +kernel
theorem dX1_holds_9 : decode cX1_holds 9 = .ok (.iload 4, 2) := by decide +kernel
theorem dX1_holds_11 : decode cX1_holds 11 = .ok (.bipush 24, 2) := by decide +kernel
theorem dX1_holds_13 : decode cX1_holds 13 = .ok (.invokestatic 71, 3) := by decide +kernel
theorem dX1_holds_16 : decode cX1_holds 16 = .ok (.aload_n 0, 1) := by decide +kernel
theorem dX1_holds_17 : decode cX1_holds 17 = .ok (.iload_n 1, 1) := by decide +kernel
theorem dX1_holds_18 : decode cX1_holds 18 = .ok (.invokevirtual 59, 3) := by decide +kernel
theorem dX1_holds_21 : decode cX1_holds 21 = .ok (.iload_n 2, 1) := by decide +kernel
theorem dX1_holds_22 : decode cX1_holds 22 = .ok (.iload_n 3, 1) := by decide +kernel
theorem dX1_holds_23 : decode cX1_holds 23 = .ok (.iload 4, 2) := by decide +kernel
theorem dX1_holds_25 : decode cX1_holds 25 = .ok (.invokevirtual 75, 3) := by decide +kernel
theorem dX1_holds_28 : decode cX1_holds 28 = .ok (.ireturn, 1) := by decide +kernel
set_option maxRecDepth 20000 in
theorem ggX1_tally_X1_requireEntry : GoodIn wsX1_tally wsX1_requireEntry := goodIn_ca (goodIn_r _ [5, 6, 7, 8, 40, 41, 42, 43] (by decide +kernel) (by decide +kernel)) (goodIn_sub (fun _ h => List.mem_cons_of_mem _ (List.mem_append_left _ (List.mem_append_right _ h))) (by decide +kernel))
set_option maxRecDepth 20000 in
theorem gX1_tally_X1_requireEntry : GoodIn wsX1_tally (wsV RX1 37 RX1 yX1_requireEntry wsX1_requireEntry) := goodIn_app (goodIn_of _ (by decide +kernel)) ggX1_tally_X1_requireEntry
set_option maxRecDepth 20000 in
theorem ggX1_tally_X1_requireBelow : GoodIn wsX1_tally wsX1_requireBelow := goodIn_ca (goodIn_r _ [11, 12, 13] (by decide +kernel) (by decide +kernel)) (goodIn_sub (fun _ h => List.mem_cons_of_mem _ (List.mem_append_right _ h)) (by decide +kernel))
set_option maxRecDepth 20000 in
theorem gX1_tally_X1_requireBelow : GoodIn wsX1_tally (va_wsS RX1 71 yX1_requireBelow wsX1_requireBelow) := goodIn_app (goodIn_of _ (by decide +kernel)) ggX1_tally_X1_requireBelow
set_option maxRecDepth 20000 in
theorem ggX1_tally_X1_panel : GoodIn wsX1_tally wsX1_panel := goodIn_r _ [17, 18, 19, 40, 41, 42, 43] (by decide +kernel) (by decide +kernel)
set_option maxRecDepth 20000 in
theorem gX1_tally_X1_panel : GoodIn wsX1_tally (wsV RX1 59 RX1 yX1_panel wsX1_panel) := goodIn_app (goodIn_of _ (by decide +kernel)) ggX1_tally_X1_panel
set_option maxRecDepth 20000 in
theorem ggX1_tally_X0_seatsWhereSo : GoodIn wsX1_tally wsX0_seatsWhereSo := goodIn_r _ [24, 25, 26, 27, 23, 28, 29, 4, 30, 31, 32, 33, 34, 35, 36, 37, 38, 39, 44, 45, 46, 47] (by decide +kernel) (by decide +kernel)
set_option maxRecDepth 20000 in
theorem gX1_tally_X0_seatsWhereSo : GoodIn wsX1_tally (wsV RX1 79 RX0 yX0_seatsWhereSo wsX0_seatsWhereSo) := goodIn_app (goodIn_of _ (by decide +kernel)) ggX1_tally_X0_seatsWhereSo
theorem dX1_tally_0 : decode cX1_tally 0 = .ok (.aload_n 0, 1) := by decide +kernel
theorem dX1_tally_1 : decode cX1_tally 1 = .ok (.iload_n 2, 1) := by decide +kernel
theorem dX1_tally_2 : decode cX1_tally 2 = .ok (.invokevirtual 37, 3) := by decide +kernel
theorem dX1_tally_5 : decode cX1_tally 5 = .ok (.iload_n 3, 1) := by decide +kernel
theorem dX1_tally_6 : decode cX1_tally 6 = .ok (.bipush 24, 2) := by decide +kernel
theorem dX1_tally_8 : decode cX1_tally 8 = .ok (.invokestatic 71, 3) := by decide +kernel
theorem dX1_tally_11 : decode cX1_tally 11 = .ok (.aload_n 0, 1) := by decide +kernel
theorem dX1_tally_12 : decode cX1_tally 12 = .ok (.iload_n 1, 1) := by decide +kernel
theorem dX1_tally_13 : decode cX1_tally 13 = .ok (.invokevirtual 59, 3) := by decide +kernel
theorem dX1_tally_16 : decode cX1_tally 16 = .ok (.iload_n 2, 1) := by decide +kernel
theorem dX1_tally_17 : decode cX1_tally 17 = .ok (.iload_n 3, 1) := by decide +kernel
theorem dX1_tally_18 : decode cX1_tally 18 = .ok (.invokevirtual 79, 3) := by decide +kernel
theorem dX1_tally_21 : decode cX1_tally 21 = .ok (.ireturn, 1) := by decide +kernel
set_option maxRecDepth 20000 in
theorem ggX1_run_X1_requireEntry : GoodIn wsX1_run wsX1_requireEntry := goodIn_ca (goodIn_r _ [5, 6, 7, 8, 43, 44, 45, 46] (by decide +kernel) (by decide +kernel)) (goodIn_sub (fun _ h => List.mem_cons_of_mem _ (List.mem_append_left _ (List.mem_append_right _ h))) (by decide +kernel))
set_option maxRecDepth 20000 in
theorem gX1_run_X1_requireEntry : GoodIn wsX1_run (wsV RX1 37 RX1 yX1_requireEntry wsX1_requireEntry) := goodIn_app (goodIn_of _ (by decide +kernel)) ggX1_run_X1_requireEntry
set_option maxRecDepth 20000 in
theorem ggX1_run_X1_requireSeat : GoodIn wsX1_run wsX1_requireSeat := goodIn_ca (goodIn_r _ [11, 6, 7] (by decide +kernel) (by decide +kernel)) (goodIn_sub (fun _ h => List.mem_cons_of_mem _ (List.mem_append_left _ (List.mem_append_right _ h))) (by decide +kernel))
set_option maxRecDepth 20000 in
theorem gX1_run_X1_requireSeat : GoodIn wsX1_run (va_wsS RX1 41 yX1_requireSeat wsX1_requireSeat) := goodIn_app (goodIn_of _ (by decide +kernel)) ggX1_run_X1_requireSeat
set_option maxRecDepth 20000 in
theorem ggX1_run_X1_requireBelow : GoodIn wsX1_run wsX1_requireBelow := goodIn_ca (goodIn_r _ [14, 15, 16] (by decide +kernel) (by decide +kernel)) (goodIn_sub (fun _ h => List.mem_cons_of_mem _ (List.mem_append_right _ h)) (by decide +kernel))
set_option maxRecDepth 20000 in
theorem gX1_run_X1_requireBelow : GoodIn wsX1_run (va_wsS RX1 71 yX1_requireBelow wsX1_requireBelow) := goodIn_app (goodIn_of _ (by decide +kernel)) ggX1_run_X1_requireBelow
set_option maxRecDepth 20000 in
theorem ggX1_run_X1_panel : GoodIn wsX1_run wsX1_panel := goodIn_r _ [20, 21, 22, 43, 44, 45, 46] (by decide +kernel) (by decide +kernel)
set_option maxRecDepth 20000 in
theorem gX1_run_X1_panel : GoodIn wsX1_run (wsV RX1 59 RX1 yX1_panel wsX1_panel) := goodIn_app (goodIn_of _ (by decide +kernel)) ggX1_run_X1_panel
set_option maxRecDepth 20000 in
theorem ggX1_run_X0_stopOf : GoodIn wsX1_run wsX0_stopOf := goodIn_r _ [27, 28, 29, 30, 26, 31, 32, 4, 33, 34, 35, 36, 37, 38, 39, 40, 41, 42, 47, 48, 49, 50] (by decide +kernel) (by decide +kernel)
set_option maxRecDepth 20000 in
theorem gX1_run_X0_stopOf : GoodIn wsX1_run (wsV RX1 82 RX0 yX0_stopOf wsX0_stopOf) := goodIn_app (goodIn_of _ (by decide +kernel)) ggX1_run_X0_stopOf
theorem dX1_run_0 : decode cX1_run 0 = .ok (.aload_n 0, 1) := by decide +kernel
theorem dX1_run_1 : decode cX1_run 1 = .ok (.iload_n 2, 1) := by decide +kernel
theorem dX1_run_2 : decode cX1_run 2 = .ok (.invokevirtual 37, 3) := by decide +kernel
theorem dX1_run_5 : decode cX1_run 5 = .ok (.iload_n 3, 1) := by decide +kernel
theorem dX1_run_6 : decode cX1_run 6 = .ok (.iconst 5, 1) := by decide +kernel
theorem dX1_run_7 : decode cX1_run 7 = .ok (.if_icmp .eq 7, 3) := by decide +kernel
theorem dX1_run_10 : decode cX1_run 10 = .ok (.iload_n 3, 1) := by decide +kernel
theorem dX1_run_11 : decode cX1_run 11 = .ok (.invokestatic 41, 3) := by decide +kernel
theorem dX1_run_14 : decode cX1_run 14 = .ok (.iload 4, 2) := by decide +kernel
theorem dX1_run_16 : decode cX1_run 16 = .ok (.bipush 24, 2) := by decide +kernel
theorem dX1_run_18 : decode cX1_run 18 = .ok (.invokestatic 71, 3) := by decide +kernel
theorem dX1_run_21 : decode cX1_run 21 = .ok (.aload_n 0, 1) := by decide +kernel
theorem dX1_run_22 : decode cX1_run 22 = .ok (.iload_n 1, 1) := by decide +kernel
theorem dX1_run_23 : decode cX1_run 23 = .ok (.invokevirtual 59, 3) := by decide +kernel
theorem dX1_run_26 : decode cX1_run 26 = .ok (.iload_n 2, 1) := by decide +kernel
theorem dX1_run_27 : decode cX1_run 27 = .ok (.iload_n 3, 1) := by decide +kernel
theorem dX1_run_28 : decode cX1_run 28 = .ok (.iload 4, 2) := by decide +kernel
theorem dX1_run_30 : decode cX1_run 30 = .ok (.invokevirtual 82, 3) := by decide +kernel
theorem dX1_run_33 : decode cX1_run 33 = .ok (.ireturn, 1) := by decide +kernel
set_option maxRecDepth 20000 in
theorem ggX1_keep_X1_requireEntry : GoodIn wsX1_keep wsX1_requireEntry := goodIn_ca (goodIn_r _ [5, 6, 7, 8, 44, 45, 46, 47] (by decide +kernel) (by decide +kernel)) (goodIn_sub (fun _ h => List.mem_cons_of_mem _ (List.mem_append_left _ (List.mem_append_right _ h))) (by decide +kernel))
set_option maxRecDepth 20000 in
theorem gX1_keep_X1_requireEntry : GoodIn wsX1_keep (wsV RX1 37 RX1 yX1_requireEntry wsX1_requireEntry) := goodIn_app (goodIn_of _ (by decide +kernel)) ggX1_keep_X1_requireEntry
set_option maxRecDepth 20000 in
theorem ggX1_keep_X1_requireSeat : GoodIn wsX1_keep wsX1_requireSeat := goodIn_ca (goodIn_r _ [11, 6, 7] (by decide +kernel) (by decide +kernel)) (goodIn_sub (fun _ h => List.mem_cons_of_mem _ (List.mem_append_left _ (List.mem_append_right _ h))) (by decide +kernel))
set_option maxRecDepth 20000 in
theorem gX1_keep_X1_requireSeat : GoodIn wsX1_keep (va_wsS RX1 41 yX1_requireSeat wsX1_requireSeat) := goodIn_app (goodIn_of _ (by decide +kernel)) ggX1_keep_X1_requireSeat
set_option maxRecDepth 20000 in
theorem ggX1_keep_X1_requireBelow : GoodIn wsX1_keep wsX1_requireBelow := goodIn_ca (goodIn_r _ [14, 15, 16] (by decide +kernel) (by decide +kernel)) (goodIn_sub (fun _ h => List.mem_cons_of_mem _ (List.mem_append_right _ h)) (by decide +kernel))
set_option maxRecDepth 20000 in
theorem gX1_keep_X1_requireBelow : GoodIn wsX1_keep (va_wsS RX1 71 yX1_requireBelow wsX1_requireBelow) := goodIn_app (goodIn_of _ (by decide +kernel)) ggX1_keep_X1_requireBelow
set_option maxRecDepth 20000 in
theorem ggX1_keep_X1_panel : GoodIn wsX1_keep wsX1_panel := goodIn_r _ [20, 21, 22, 44, 45, 46, 47] (by decide +kernel) (by decide +kernel)
set_option maxRecDepth 20000 in
theorem gX1_keep_X1_panel : GoodIn wsX1_keep (wsV RX1 59 RX1 yX1_panel wsX1_panel) := goodIn_app (goodIn_of _ (by decide +kernel)) ggX1_keep_X1_panel
set_option maxRecDepth 20000 in
theorem ggX1_keep_X0_keepTruth : GoodIn wsX1_keep wsX0_keepTruth := goodIn_r _ [27, 28, 29, 30, 31, 26, 32, 33, 4, 34, 35, 36, 37, 38, 39, 40, 41, 42, 43, 48, 49, 50, 51] (by decide +kernel) (by decide +kernel)
set_option maxRecDepth 20000 in
theorem gX1_keep_X0_keepTruth : GoodIn wsX1_keep (wsV RX1 86 RX0 yX0_keepTruth wsX0_keepTruth) := goodIn_app (goodIn_of _ (by decide +kernel)) ggX1_keep_X0_keepTruth
theorem dX1_keep_0 : decode cX1_keep 0 = .ok (.aload_n 0, 1) := by decide +kernel
theorem dX1_keep_1 : decode cX1_keep 1 = .ok (.iload_n 2, 1) := by decide +kernel
theorem dX1_keep_2 : decode cX1_keep 2 = .ok (.invokevirtual 37, 3) := by decide +kernel
theorem dX1_keep_5 : decode cX1_keep 5 = .ok (.iload_n 3, 1) := by decide +kernel
theorem dX1_keep_6 : decode cX1_keep 6 = .ok (.invokestatic 41, 3) := by decide +kernel
theorem dX1_keep_9 : decode cX1_keep 9 = .ok (.iload 4, 2) := by decide +kernel
theorem dX1_keep_11 : decode cX1_keep 11 = .ok (.bipush 24, 2) := by decide +kernel
theorem dX1_keep_13 : decode cX1_keep 13 = .ok (.invokestatic 71, 3) := by decide +kernel
theorem dX1_keep_16 : decode cX1_keep 16 = .ok (.aload_n 0, 1) := by decide +kernel
theorem dX1_keep_17 : decode cX1_keep 17 = .ok (.iload_n 1, 1) := by decide +kernel
theorem dX1_keep_18 : decode cX1_keep 18 = .ok (.invokevirtual 59, 3) := by decide +kernel
theorem dX1_keep_21 : decode cX1_keep 21 = .ok (.iload_n 2, 1) := by decide +kernel
theorem dX1_keep_22 : decode cX1_keep 22 = .ok (.iload_n 3, 1) := by decide +kernel
theorem dX1_keep_23 : decode cX1_keep 23 = .ok (.iload 4, 2) := by decide +kernel
theorem dX1_keep_25 : decode cX1_keep 25 = .ok (.invokevirtual 86, 3) := by decide +kernel
theorem dX1_keep_28 : decode cX1_keep 28 = .ok (.ireturn, 1) := by decide +kernel
set_option maxRecDepth 20000 in
theorem ggX1_kept_X1_requireEntry : GoodIn wsX1_kept wsX1_requireEntry := goodIn_ca (goodIn_r _ [5, 6, 7, 8, 27, 28, 29, 30] (by decide +kernel) (by decide +kernel)) (goodIn_sub (fun _ h => List.mem_cons_of_mem _ (List.mem_append_right _ h)) (by decide +kernel))
set_option maxRecDepth 20000 in
theorem gX1_kept_X1_requireEntry : GoodIn wsX1_kept (wsV RX1 37 RX1 yX1_requireEntry wsX1_requireEntry) := goodIn_app (goodIn_of _ (by decide +kernel)) ggX1_kept_X1_requireEntry
set_option maxRecDepth 20000 in
theorem ggX1_kept_X1_requireSeat : GoodIn wsX1_kept wsX1_requireSeat := goodIn_ca (goodIn_r _ [11, 6, 7] (by decide +kernel) (by decide +kernel)) (goodIn_sub (fun _ h => List.mem_cons_of_mem _ (List.mem_append_right _ h)) (by decide +kernel))
set_option maxRecDepth 20000 in
theorem gX1_kept_X1_requireSeat : GoodIn wsX1_kept (va_wsS RX1 41 yX1_requireSeat wsX1_requireSeat) := goodIn_app (goodIn_of _ (by decide +kernel)) ggX1_kept_X1_requireSeat
set_option maxRecDepth 20000 in
theorem ggX1_kept_X1_panel : GoodIn wsX1_kept wsX1_panel := goodIn_r _ [15, 16, 17, 27, 28, 29, 30] (by decide +kernel) (by decide +kernel)
set_option maxRecDepth 20000 in
theorem gX1_kept_X1_panel : GoodIn wsX1_kept (wsV RX1 59 RX1 yX1_panel wsX1_panel) := goodIn_app (goodIn_of _ (by decide +kernel)) ggX1_kept_X1_panel
set_option maxRecDepth 20000 in
theorem ggX1_kept_X1_cellOf : GoodIn wsX1_kept wsX1_cellOf := goodIn_r _ [20] (by decide +kernel) (by decide +kernel)
set_option maxRecDepth 20000 in
theorem gX1_kept_X1_cellOf : GoodIn wsX1_kept (va_wsS RX1 44 yX1_cellOf wsX1_cellOf) := goodIn_app (goodIn_of _ (by decide +kernel)) ggX1_kept_X1_cellOf
set_option maxRecDepth 20000 in
theorem ggX1_kept_X0_truthAt : GoodIn wsX1_kept wsX0_truthAt := goodIn_r _ [25, 26, 31, 32, 33, 34] (by decide +kernel) (by decide +kernel)
set_option maxRecDepth 20000 in
theorem gX1_kept_X0_truthAt : GoodIn wsX1_kept (wsV RX1 89 RX0 yX0_truthAt wsX0_truthAt) := goodIn_app (goodIn_of _ (by decide +kernel)) ggX1_kept_X0_truthAt
theorem dX1_kept_0 : decode cX1_kept 0 = .ok (.aload_n 0, 1) := by decide +kernel
theorem dX1_kept_1 : decode cX1_kept 1 = .ok (.iload_n 2, 1) := by decide +kernel
theorem dX1_kept_2 : decode cX1_kept 2 = .ok (.invokevirtual 37, 3) := by decide +kernel
theorem dX1_kept_5 : decode cX1_kept 5 = .ok (.iload_n 3, 1) := by decide +kernel
theorem dX1_kept_6 : decode cX1_kept 6 = .ok (.invokestatic 41, 3) := by decide +kernel
theorem dX1_kept_9 : decode cX1_kept 9 = .ok (.aload_n 0, 1) := by decide +kernel
theorem dX1_kept_10 : decode cX1_kept 10 = .ok (.iload_n 1, 1) := by decide +kernel
theorem dX1_kept_11 : decode cX1_kept 11 = .ok (.invokevirtual 59, 3) := by decide +kernel
theorem dX1_kept_14 : decode cX1_kept 14 = .ok (.iload_n 2, 1) := by decide +kernel
theorem dX1_kept_15 : decode cX1_kept 15 = .ok (.iload_n 3, 1) := by decide +kernel
theorem dX1_kept_16 : decode cX1_kept 16 = .ok (.invokestatic 44, 3) := by decide +kernel
theorem dX1_kept_19 : decode cX1_kept 19 = .ok (.invokevirtual 89, 3) := by decide +kernel
theorem dX1_kept_22 : decode cX1_kept 22 = .ok (.ireturn, 1) := by decide +kernel
set_option maxRecDepth 20000 in
theorem ggX1_place_X1_requireEntry : GoodIn wsX1_place wsX1_requireEntry := goodIn_ca (goodIn_r _ [6, 7, 8, 1, 40, 41, 42, 43] (by decide +kernel) (by decide +kernel)) (goodIn_sub (fun _ h => List.mem_cons_of_mem _ (List.mem_append_right _ h)) (by decide +kernel))
set_option maxRecDepth 20000 in
theorem gX1_place_X1_requireEntry : GoodIn wsX1_place (wsV RX1 37 RX1 yX1_requireEntry wsX1_requireEntry) := goodIn_app (goodIn_of _ (by decide +kernel)) ggX1_place_X1_requireEntry
set_option maxRecDepth 20000 in
theorem ggX1_place_X1_requireSeat : GoodIn wsX1_place wsX1_requireSeat := goodIn_ca (goodIn_r _ [11, 7, 8] (by decide +kernel) (by decide +kernel)) (goodIn_sub (fun _ h => List.mem_cons_of_mem _ (List.mem_append_right _ h)) (by decide +kernel))
set_option maxRecDepth 20000 in
theorem gX1_place_X1_requireSeat : GoodIn wsX1_place (va_wsS RX1 41 yX1_requireSeat wsX1_requireSeat) := goodIn_app (goodIn_of _ (by decide +kernel)) ggX1_place_X1_requireSeat
set_option maxRecDepth 20000 in
theorem ggX1_place_X1_panel : GoodIn wsX1_place wsX1_panel := goodIn_r _ [15, 16, 17, 40, 41, 42, 43] (by decide +kernel) (by decide +kernel)
set_option maxRecDepth 20000 in
theorem gX1_place_X1_panel : GoodIn wsX1_place (wsV RX1 59 RX1 yX1_panel wsX1_panel) := goodIn_app (goodIn_of _ (by decide +kernel)) ggX1_place_X1_panel
set_option maxRecDepth 20000 in
theorem ggX1_place_X0_placeOf : GoodIn wsX1_place wsX0_placeOf := goodIn_r _ [22, 23, 24, 25, 26, 21, 27, 28, 29, 30, 31, 32, 5, 33, 34, 35, 36, 37, 38, 39, 44, 45, 46, 47] (by decide +kernel) (by decide +kernel)
set_option maxRecDepth 20000 in
theorem gX1_place_X0_placeOf : GoodIn wsX1_place (wsV RX1 92 RX0 yX0_placeOf wsX0_placeOf) := goodIn_app (goodIn_of _ (by decide +kernel)) ggX1_place_X0_placeOf
theorem dX1_place_0 : decode cX1_place 0 = .ok (.aload_n 0, 1) := by decide +kernel
theorem dX1_place_1 : decode cX1_place 1 = .ok (.iload_n 2, 1) := by decide +kernel
theorem dX1_place_2 : decode cX1_place 2 = .ok (.invokevirtual 37, 3) := by decide +kernel
theorem dX1_place_5 : decode cX1_place 5 = .ok (.iload_n 3, 1) := by decide +kernel
theorem dX1_place_6 : decode cX1_place 6 = .ok (.invokestatic 41, 3) := by decide +kernel
theorem dX1_place_9 : decode cX1_place 9 = .ok (.aload_n 0, 1) := by decide +kernel
theorem dX1_place_10 : decode cX1_place 10 = .ok (.iload_n 1, 1) := by decide +kernel
theorem dX1_place_11 : decode cX1_place 11 = .ok (.invokevirtual 59, 3) := by decide +kernel
theorem dX1_place_14 : decode cX1_place 14 = .ok (.iload_n 2, 1) := by decide +kernel
theorem dX1_place_15 : decode cX1_place 15 = .ok (.iload_n 3, 1) := by decide +kernel
theorem dX1_place_16 : decode cX1_place 16 = .ok (.iload 4, 2) := by decide +kernel
theorem dX1_place_18 : decode cX1_place 18 = .ok (.aload_n 0, 1) := by decide +kernel
theorem dX1_place_19 : decode cX1_place 19 = .ok (.getfield 26, 3) := by decide +kernel
theorem dX1_place_22 : decode cX1_place 22 = .ok (.invokevirtual 92, 3) := by decide +kernel
theorem dX1_place_25 : decode cX1_place 25 = .ok (.ireturn, 1) := by decide +kernel
set_option maxRecDepth 20000 in
theorem ggX1_best_X1_requireSeat : GoodIn wsX1_best wsX1_requireSeat := goodIn_ca (goodIn_r _ [5, 6, 7] (by decide +kernel) (by decide +kernel)) (goodIn_sub (fun _ h => List.mem_cons_of_mem _ (List.mem_append_left _ (List.mem_append_right _ h))) (by decide +kernel))
set_option maxRecDepth 20000 in
theorem gX1_best_X1_requireSeat : GoodIn wsX1_best (va_wsS RX1 41 yX1_requireSeat wsX1_requireSeat) := goodIn_app (goodIn_of _ (by decide +kernel)) ggX1_best_X1_requireSeat
set_option maxRecDepth 20000 in
theorem ggX1_best_X1_requireBelow : GoodIn wsX1_best wsX1_requireBelow := goodIn_ca (goodIn_r _ [10, 11, 12] (by decide +kernel) (by decide +kernel)) (goodIn_sub (fun _ h => List.mem_cons_of_mem _ (List.mem_append_right _ h)) (by decide +kernel))
set_option maxRecDepth 20000 in
theorem gX1_best_X1_requireBelow : GoodIn wsX1_best (va_wsS RX1 71 yX1_requireBelow wsX1_requireBelow) := goodIn_app (goodIn_of _ (by decide +kernel)) ggX1_best_X1_requireBelow
set_option maxRecDepth 20000 in
theorem ggX1_best_X1_panel : GoodIn wsX1_best wsX1_panel := goodIn_r _ [16, 17, 18, 35, 36, 37, 38] (by decide +kernel) (by decide +kernel)
set_option maxRecDepth 20000 in
theorem gX1_best_X1_panel : GoodIn wsX1_best (wsV RX1 59 RX1 yX1_panel wsX1_panel) := goodIn_app (goodIn_of _ (by decide +kernel)) ggX1_best_X1_panel
set_option maxRecDepth 20000 in
theorem ggX1_best_X0_bestOf : GoodIn wsX1_best wsX0_bestOf := goodIn_r _ [23, 24, 4, 25, 26, 27, 28, 22, 29, 30, 31, 32, 33, 34, 39, 40, 41, 42] (by decide +kernel) (by decide +kernel)
set_option maxRecDepth 20000 in
theorem gX1_best_X0_bestOf : GoodIn wsX1_best (wsV RX1 96 RX0 yX0_bestOf wsX0_bestOf) := goodIn_app (goodIn_of _ (by decide +kernel)) ggX1_best_X0_bestOf
theorem dX1_best_0 : decode cX1_best 0 = .ok (.iload_n 2, 1) := by decide +kernel
theorem dX1_best_1 : decode cX1_best 1 = .ok (.invokestatic 41, 3) := by decide +kernel
theorem dX1_best_4 : decode cX1_best 4 = .ok (.iload_n 3, 1) := by decide +kernel
theorem dX1_best_5 : decode cX1_best 5 = .ok (.iconst 4, 1) := by decide +kernel
theorem dX1_best_6 : decode cX1_best 6 = .ok (.invokestatic 71, 3) := by decide +kernel
theorem dX1_best_9 : decode cX1_best 9 = .ok (.aload_n 0, 1) := by decide +kernel
theorem dX1_best_10 : decode cX1_best 10 = .ok (.iload_n 1, 1) := by decide +kernel
theorem dX1_best_11 : decode cX1_best 11 = .ok (.invokevirtual 59, 3) := by decide +kernel
theorem dX1_best_14 : decode cX1_best 14 = .ok (.aload_n 0, 1) := by decide +kernel
theorem dX1_best_15 : decode cX1_best 15 = .ok (.getfield 26, 3) := by decide +kernel
theorem dX1_best_18 : decode cX1_best 18 = .ok (.iload_n 2, 1) := by decide +kernel
theorem dX1_best_19 : decode cX1_best 19 = .ok (.iload_n 3, 1) := by decide +kernel
theorem dX1_best_20 : decode cX1_best 20 = .ok (.invokevirtual 96, 3) := by decide +kernel
theorem dX1_best_23 : decode cX1_best 23 = .ok (.ireturn, 1) := by decide +kernel
set_option maxRecDepth 20000 in
theorem ggX1_against_X1_requireEntry : GoodIn wsX1_against wsX1_requireEntry := goodIn_ca (goodIn_r _ [5, 6, 7, 8, 36, 37, 38, 39] (by decide +kernel) (by decide +kernel)) (goodIn_sub (fun _ h => List.mem_cons_of_mem _ (List.mem_append_left _ (List.mem_append_right _ h))) (by decide +kernel))
set_option maxRecDepth 20000 in
theorem gX1_against_X1_requireEntry : GoodIn wsX1_against (wsV RX1 37 RX1 yX1_requireEntry wsX1_requireEntry) := goodIn_app (goodIn_of _ (by decide +kernel)) ggX1_against_X1_requireEntry
set_option maxRecDepth 20000 in
theorem ggX1_against_X1_requireBelow : GoodIn wsX1_against wsX1_requireBelow := goodIn_ca (goodIn_r _ [11, 12, 13] (by decide +kernel) (by decide +kernel)) (goodIn_sub (fun _ h => List.mem_cons_of_mem _ (List.mem_append_right _ h)) (by decide +kernel))
set_option maxRecDepth 20000 in
theorem gX1_against_X1_requireBelow : GoodIn wsX1_against (va_wsS RX1 71 yX1_requireBelow wsX1_requireBelow) := goodIn_app (goodIn_of _ (by decide +kernel)) ggX1_against_X1_requireBelow
set_option maxRecDepth 20000 in
theorem ggX1_against_X1_panel : GoodIn wsX1_against wsX1_panel := goodIn_r _ [17, 18, 19, 36, 37, 38, 39] (by decide +kernel) (by decide +kernel)
set_option maxRecDepth 20000 in
theorem gX1_against_X1_panel : GoodIn wsX1_against (wsV RX1 59 RX1 yX1_panel wsX1_panel) := goodIn_app (goodIn_of _ (by decide +kernel)) ggX1_against_X1_panel
set_option maxRecDepth 20000 in
theorem ggX1_against_X0_seatsAgainst : GoodIn wsX1_against wsX0_seatsAgainst := goodIn_r _ [24, 25, 4, 26, 27, 28, 29, 23, 30, 31, 32, 33, 34, 35, 40, 41, 42, 43] (by decide +kernel) (by decide +kernel)
set_option maxRecDepth 20000 in
theorem gX1_against_X0_seatsAgainst : GoodIn wsX1_against (wsV RX1 99 RX0 yX0_seatsAgainst wsX0_seatsAgainst) := goodIn_app (goodIn_of _ (by decide +kernel)) ggX1_against_X0_seatsAgainst
theorem dX1_against_0 : decode cX1_against 0 = .ok (.aload_n 0, 1) := by decide +kernel
theorem dX1_against_1 : decode cX1_against 1 = .ok (.iload_n 2, 1) := by decide +kernel
theorem dX1_against_2 : decode cX1_against 2 = .ok (.invokevirtual 37, 3) := by decide +kernel
theorem dX1_against_5 : decode cX1_against 5 = .ok (.aload_n 0, 1) := by decide +kernel
theorem dX1_against_6 : decode cX1_against 6 = .ok (.iload_n 3, 1) := by decide +kernel
theorem dX1_against_7 : decode cX1_against 7 = .ok (.invokevirtual 37, 3) := by decide +kernel
theorem dX1_against_10 : decode cX1_against 10 = .ok (.iload 4, 2) := by decide +kernel
theorem dX1_against_12 : decode cX1_against 12 = .ok (.iconst 5, 1) := by decide +kernel
theorem dX1_against_13 : decode cX1_against 13 = .ok (.invokestatic 71, 3) := by decide +kernel
theorem dX1_against_16 : decode cX1_against 16 = .ok (.aload_n 0, 1) := by decide +kernel
theorem dX1_against_17 : decode cX1_against 17 = .ok (.iload_n 1, 1) := by decide +kernel
theorem dX1_against_18 : decode cX1_against 18 = .ok (.invokevirtual 59, 3) := by decide +kernel
theorem dX1_against_21 : decode cX1_against 21 = .ok (.iload_n 2, 1) := by decide +kernel
theorem dX1_against_22 : decode cX1_against 22 = .ok (.iload_n 3, 1) := by decide +kernel
theorem dX1_against_23 : decode cX1_against 23 = .ok (.iload 4, 2) := by decide +kernel
theorem dX1_against_25 : decode cX1_against 25 = .ok (.invokevirtual 99, 3) := by decide +kernel
theorem dX1_against_28 : decode cX1_against 28 = .ok (.ireturn, 1) := by decide +kernel
set_option maxRecDepth 20000 in
theorem ggX1_told_X1_requireEntryOrNone : GoodIn wsX1_told wsX1_requireEntryOrNone := goodIn_ca (goodIn_r _ [7, 8, 9, 10, 6, 11, 12, 13, 14, 42, 43, 44, 45] (by decide +kernel) (by decide +kernel)) (goodIn_sub (fun _ h => List.mem_cons_of_mem _ (List.mem_append_right _ h)) (by decide +kernel))
set_option maxRecDepth 20000 in
theorem gX1_told_X1_requireEntryOrNone : GoodIn wsX1_told (wsV RX1 56 RX1 yX1_requireEntryOrNone wsX1_requireEntryOrNone) := goodIn_app (goodIn_of _ (by decide +kernel)) ggX1_told_X1_requireEntryOrNone
set_option maxRecDepth 20000 in
theorem ggX1_told_X1_requireSeat : GoodIn wsX1_told wsX1_requireSeat := goodIn_ca (goodIn_r _ [17, 12, 13] (by decide +kernel) (by decide +kernel)) (goodIn_sub (fun _ h => List.mem_cons_of_mem _ (List.mem_append_right _ h)) (by decide +kernel))
set_option maxRecDepth 20000 in
theorem gX1_told_X1_requireSeat : GoodIn wsX1_told (va_wsS RX1 41 yX1_requireSeat wsX1_requireSeat) := goodIn_app (goodIn_of _ (by decide +kernel)) ggX1_told_X1_requireSeat
set_option maxRecDepth 20000 in
theorem ggX1_told_X1_rowOf : GoodIn wsX1_told wsX1_rowOf := goodIn_r _ [20] (by decide +kernel) (by decide +kernel)
set_option maxRecDepth 20000 in
theorem gX1_told_X1_rowOf : GoodIn wsX1_told (va_wsS RX1 63 yX1_rowOf wsX1_rowOf) := goodIn_app (goodIn_of _ (by decide +kernel)) ggX1_told_X1_rowOf
set_option maxRecDepth 20000 in
theorem ggX1_told_X1_cellOf : GoodIn wsX1_told wsX1_cellOf := goodIn_r _ [23] (by decide +kernel) (by decide +kernel)
set_option maxRecDepth 20000 in
theorem gX1_told_X1_cellOf : GoodIn wsX1_told (va_wsS RX1 44 yX1_cellOf wsX1_cellOf) := goodIn_app (goodIn_of _ (by decide +kernel)) ggX1_told_X1_cellOf
set_option maxRecDepth 20000 in
theorem ggX1_told_X1_panel : GoodIn wsX1_told wsX1_panel := goodIn_r _ [27, 28, 29, 42, 43, 44, 45] (by decide +kernel) (by decide +kernel)
set_option maxRecDepth 20000 in
theorem gX1_told_X1_panel : GoodIn wsX1_told (wsV RX1 59 RX1 yX1_panel wsX1_panel) := goodIn_app (goodIn_of _ (by decide +kernel)) ggX1_told_X1_panel
set_option maxRecDepth 20000 in
theorem ggX1_told_X0_isNumber : GoodIn wsX1_told wsX0_isNumber := goodIn_r _ [34, 35, 46, 47, 48, 49] (by decide +kernel) (by decide +kernel)
set_option maxRecDepth 20000 in
theorem gX1_told_X0_isNumber : GoodIn wsX1_told (wsV RX1 102 RX0 yX0_isNumber wsX0_isNumber) := goodIn_app (goodIn_of _ (by decide +kernel)) ggX1_told_X0_isNumber
set_option maxRecDepth 20000 in
theorem ggX1_told_X0_eighthsAt : GoodIn wsX1_told wsX0_eighthsAt := goodIn_r _ [39, 40, 41, 46, 47, 48, 49] (by decide +kernel) (by decide +kernel)
set_option maxRecDepth 20000 in
theorem gX1_told_X0_eighthsAt : GoodIn wsX1_told (wsV RX1 107 RX0 yX0_eighthsAt wsX0_eighthsAt) := goodIn_app (goodIn_of _ (by decide +kernel)) ggX1_told_X0_eighthsAt
theorem dX1_told_0 : decode cX1_told 0 = .ok (.aload_n 0, 1) := by decide +kernel
theorem dX1_told_1 : decode cX1_told 1 = .ok (.iload_n 2, 1) := by decide +kernel
theorem dX1_told_2 : decode cX1_told 2 = .ok (.invokevirtual 56, 3) := by decide +kernel
theorem dX1_told_5 : decode cX1_told 5 = .ok (.iload_n 3, 1) := by decide +kernel
theorem dX1_told_6 : decode cX1_told 6 = .ok (.invokestatic 41, 3) := by decide +kernel
theorem dX1_told_9 : decode cX1_told 9 = .ok (.iload_n 2, 1) := by decide +kernel
theorem dX1_told_10 : decode cX1_told 10 = .ok (.invokestatic 63, 3) := by decide +kernel
theorem dX1_told_13 : decode cX1_told 13 = .ok (.iload_n 3, 1) := by decide +kernel
theorem dX1_told_14 : decode cX1_told 14 = .ok (.invokestatic 44, 3) := by decide +kernel
theorem dX1_told_17 : decode cX1_told 17 = .ok (.istore 4, 2) := by decide +kernel
theorem dX1_told_19 : decode cX1_told 19 = .ok (.aload_n 0, 1) := by decide +kernel
theorem dX1_told_20 : decode cX1_told 20 = .ok (.iload_n 1, 1) := by decide +kernel
theorem dX1_told_21 : decode cX1_told 21 = .ok (.invokevirtual 59, 3) := by decide +kernel
theorem dX1_told_24 : decode cX1_told 24 = .ok (.astore 5, 2) := by decide +kernel
theorem dX1_told_26 : decode cX1_told 26 = .ok (.aload 5, 2) := by decide +kernel
theorem dX1_told_28 : decode cX1_told 28 = .ok (.iload 4, 2) := by decide +kernel
theorem dX1_told_30 : decode cX1_told 30 = .ok (.invokevirtual 102, 3) := by decide +kernel
theorem dX1_told_33 : decode cX1_told 33 = .ok (.ifCond .ne 13, 3) := by decide +kernel
theorem dX1_told_36 : decode cX1_told 36 = .ok (.new 30, 3) := by decide +kernel
theorem dX1_told_39 : decode cX1_told 39 = .ok (.dup, 1) := by decide +kernel
theorem dX1_told_40 : decode cX1_told 40 = .ok (.ldc 105, 2) := by decide +kernel
theorem dX1_told_42 : decode cX1_told 42 = .ok (.invokespecial 34, 3) := by decide +kernel
theorem dX1_told_45 : decode cX1_told 45 = .ok (.athrow, 1) := by decide +kernel
theorem dX1_told_46 : decode cX1_told 46 = .ok (.aload 5, 2) := by decide +kernel
theorem dX1_told_48 : decode cX1_told 48 = .ok (.iload 4, 2) := by decide +kernel
theorem dX1_told_50 : decode cX1_told 50 = .ok (.invokevirtual 107, 3) := by decide +kernel
theorem dX1_told_53 : decode cX1_told 53 = .ok (.lreturn, 1) := by decide +kernel
set_option maxRecDepth 20000 in
theorem ggX1_sum_X1_requireEntry : GoodIn wsX1_sum wsX1_requireEntry := goodIn_ca (goodIn_r _ [6, 7, 8, 9, 70, 71, 72, 73] (by decide +kernel) (by decide +kernel)) (goodIn_sub (fun _ h => List.mem_cons_of_mem _ (List.mem_append_right _ h)) (by decide +kernel))
set_option maxRecDepth 20000 in
theorem gX1_sum_X1_requireEntry : GoodIn wsX1_sum (wsV RX1 37 RX1 yX1_requireEntry wsX1_requireEntry) := goodIn_app (goodIn_of _ (by decide +kernel)) ggX1_sum_X1_requireEntry
set_option maxRecDepth 20000 in
theorem ggX1_sum_X1_panel : GoodIn wsX1_sum wsX1_panel := goodIn_r _ [13, 14, 15, 70, 71, 72, 73] (by decide +kernel) (by decide +kernel)
set_option maxRecDepth 20000 in
theorem gX1_sum_X1_panel : GoodIn wsX1_sum (wsV RX1 59 RX1 yX1_panel wsX1_panel) := goodIn_app (goodIn_of _ (by decide +kernel)) ggX1_sum_X1_panel
set_option maxRecDepth 20000 in
theorem ggX1_sum_X0_sumOfEighths : GoodIn wsX1_sum wsX0_sumOfEighths := goodIn_r _ [20, 21, 22, 23, 24, 25, 26, 27, 28, 29, 30, 31, 32, 33, 5, 34, 35, 36, 37, 38, 39, 40, 41, 42, 43, 44, 45, 46, 47, 48, 49, 50, 51, 52, 53, 54, 55, 56, 57, 58, 59, 60, 61, 62, 63, 64, 65, 66, 67, 68, 69, 74, 75, 76, 77, 78] (by decide +kernel) (by decide +kernel)
set_option maxRecDepth 20000 in
theorem gX1_sum_X0_sumOfEighths : GoodIn wsX1_sum (wsV RX1 111 RX0 yX0_sumOfEighths wsX0_sumOfEighths) := goodIn_app (goodIn_of _ (by decide +kernel)) ggX1_sum_X0_sumOfEighths
theorem dX1_sum_0 : decode cX1_sum 0 = .ok (.aload_n 0, 1) := by decide +kernel
theorem dX1_sum_1 : decode cX1_sum 1 = .ok (.iload_n 2, 1) := by decide +kernel
theorem dX1_sum_2 : decode cX1_sum 2 = .ok (.invokevirtual 37, 3) := by decide +kernel
theorem dX1_sum_5 : decode cX1_sum 5 = .ok (.aload_n 0, 1) := by decide +kernel
theorem dX1_sum_6 : decode cX1_sum 6 = .ok (.iload_n 1, 1) := by decide +kernel
theorem dX1_sum_7 : decode cX1_sum 7 = .ok (.invokevirtual 59, 3) := by decide +kernel
theorem dX1_sum_10 : decode cX1_sum 10 = .ok (.iload_n 2, 1) := by decide +kernel
theorem dX1_sum_11 : decode cX1_sum 11 = .ok (.aload_n 0, 1) := by decide +kernel
theorem dX1_sum_12 : decode cX1_sum 12 = .ok (.getfield 22, 3) := by decide +kernel
theorem dX1_sum_15 : decode cX1_sum 15 = .ok (.invokevirtual 111, 3) := by decide +kernel
theorem dX1_sum_18 : decode cX1_sum 18 = .ok (.lreturn, 1) := by decide +kernel
set_option maxRecDepth 20000 in
theorem ggX1_count_X1_requireBelow : GoodIn wsX1_count wsX1_requireBelow := goodIn_ca (goodIn_r _ [7, 8, 9] (by decide +kernel) (by decide +kernel)) (goodIn_sub (fun _ h => List.mem_cons_of_mem _ (List.mem_append_right _ h)) (by decide +kernel))
set_option maxRecDepth 20000 in
theorem gX1_count_X1_requireBelow : GoodIn wsX1_count (va_wsS RX1 71 yX1_requireBelow wsX1_requireBelow) := goodIn_app (goodIn_of _ (by decide +kernel)) ggX1_count_X1_requireBelow
set_option maxRecDepth 20000 in
theorem ggX1_count_X0_numbersOfEntries : GoodIn wsX1_count wsX0_numbersOfEntries := goodIn_r _ [14, 15, 6, 16, 17, 18, 19, 13, 20, 21, 35, 36, 37, 38] (by decide +kernel) (by decide +kernel)
set_option maxRecDepth 20000 in
theorem gX1_count_X0_numbersOfEntries : GoodIn wsX1_count (wsV RX1 115 RX0 yX0_numbersOfEntries wsX0_numbersOfEntries) := goodIn_app (goodIn_of _ (by decide +kernel)) ggX1_count_X0_numbersOfEntries
set_option maxRecDepth 20000 in
theorem ggX1_count_X0_numbersOfLimits : GoodIn wsX1_count wsX0_numbersOfLimits := goodIn_r _ [25, 15, 6, 16, 17, 18, 19, 13, 20, 21, 35, 36, 37, 38] (by decide +kernel) (by decide +kernel)
set_option maxRecDepth 20000 in
theorem gX1_count_X0_numbersOfLimits : GoodIn wsX1_count (wsV RX1 119 RX0 yX0_numbersOfLimits wsX0_numbersOfLimits) := goodIn_app (goodIn_of _ (by decide +kernel)) ggX1_count_X0_numbersOfLimits
set_option maxRecDepth 20000 in
theorem ggX1_count_X0_truthsLike : GoodIn wsX1_count wsX0_truthsLike := goodIn_r _ [29, 30, 35, 36, 37, 38] (by decide +kernel) (by decide +kernel)
set_option maxRecDepth 20000 in
theorem gX1_count_X0_truthsLike : GoodIn wsX1_count (wsV RX1 122 RX0 yX0_truthsLike wsX0_truthsLike) := goodIn_app (goodIn_of _ (by decide +kernel)) ggX1_count_X0_truthsLike
theorem dX1_count_0 : decode cX1_count 0 = .ok (.iload_n 1, 1) := by decide +kernel
theorem dX1_count_1 : decode cX1_count 1 = .ok (.bipush 9, 2) := by decide +kernel
theorem dX1_count_3 : decode cX1_count 3 = .ok (.invokestatic 71, 3) := by decide +kernel
theorem dX1_count_6 : decode cX1_count 6 = .ok (.iload_n 1, 1) := by decide +kernel
theorem dX1_count_7 : decode cX1_count 7 = .ok (.tableswitch 130 0 7 #[45, 50, 58, 66, 81, 96, 104, 112], 45) := by decide +kernel
theorem dX1_count_52 : decode cX1_count 52 = .ok (.aload_n 0, 1) := by decide +kernel
theorem dX1_count_53 : decode cX1_count 53 = .ok (.getfield 26, 3) := by decide +kernel
theorem dX1_count_56 : decode cX1_count 56 = .ok (.ireturn, 1) := by decide +kernel
theorem dX1_count_57 : decode cX1_count 57 = .ok (.aload_n 0, 1) := by decide +kernel
theorem dX1_count_58 : decode cX1_count 58 = .ok (.getfield 12, 3) := by decide +kernel
theorem dX1_count_61 : decode cX1_count 61 = .ok (.invokevirtual 115, 3) := by decide +kernel
theorem dX1_count_64 : decode cX1_count 64 = .ok (.ireturn, 1) := by decide +kernel
theorem dX1_count_65 : decode cX1_count 65 = .ok (.aload_n 0, 1) := by decide +kernel
theorem dX1_count_66 : decode cX1_count 66 = .ok (.getfield 16, 3) := by decide +kernel
theorem dX1_count_69 : decode cX1_count 69 = .ok (.invokevirtual 115, 3) := by decide +kernel
theorem dX1_count_72 : decode cX1_count 72 = .ok (.ireturn, 1) := by decide +kernel
theorem dX1_count_73 : decode cX1_count 73 = .ok (.aload_n 0, 1) := by decide +kernel
theorem dX1_count_74 : decode cX1_count 74 = .ok (.getfield 26, 3) := by decide +kernel
theorem dX1_count_77 : decode cX1_count 77 = .ok (.iconst 5, 1) := by decide +kernel
theorem dX1_count_78 : decode cX1_count 78 = .ok (.imul, 1) := by decide +kernel
theorem dX1_count_79 : decode cX1_count 79 = .ok (.aload_n 0, 1) := by decide +kernel
theorem dX1_count_80 : decode cX1_count 80 = .ok (.getfield 12, 3) := by decide +kernel
theorem dX1_count_83 : decode cX1_count 83 = .ok (.invokevirtual 115, 3) := by decide +kernel
theorem dX1_count_86 : decode cX1_count 86 = .ok (.isub, 1) := by decide +kernel
theorem dX1_count_87 : decode cX1_count 87 = .ok (.ireturn, 1) := by decide +kernel
theorem dX1_count_88 : decode cX1_count 88 = .ok (.aload_n 0, 1) := by decide +kernel
theorem dX1_count_89 : decode cX1_count 89 = .ok (.getfield 26, 3) := by decide +kernel
theorem dX1_count_92 : decode cX1_count 92 = .ok (.iconst 5, 1) := by decide +kernel
theorem dX1_count_93 : decode cX1_count 93 = .ok (.imul, 1) := by decide +kernel
theorem dX1_count_94 : decode cX1_count 94 = .ok (.aload_n 0, 1) := by decide +kernel
theorem dX1_count_95 : decode cX1_count 95 = .ok (.getfield 16, 3) := by decide +kernel
theorem dX1_count_98 : decode cX1_count 98 = .ok (.invokevirtual 115, 3) := by decide +kernel
theorem dX1_count_101 : decode cX1_count 101 = .ok (.isub, 1) := by decide +kernel
theorem dX1_count_102 : decode cX1_count 102 = .ok (.ireturn, 1) := by decide +kernel
theorem dX1_count_103 : decode cX1_count 103 = .ok (.aload_n 0, 1) := by decide +kernel
theorem dX1_count_104 : decode cX1_count 104 = .ok (.getfield 12, 3) := by decide +kernel
theorem dX1_count_107 : decode cX1_count 107 = .ok (.invokevirtual 119, 3) := by decide +kernel
theorem dX1_count_110 : decode cX1_count 110 = .ok (.ireturn, 1) := by decide +kernel
theorem dX1_count_111 : decode cX1_count 111 = .ok (.aload_n 0, 1) := by decide +kernel
theorem dX1_count_112 : decode cX1_count 112 = .ok (.getfield 16, 3) := by decide +kernel
theorem dX1_count_115 : decode cX1_count 115 = .ok (.invokevirtual 119, 3) := by decide +kernel
theorem dX1_count_118 : decode cX1_count 118 = .ok (.ireturn, 1) := by decide +kernel
theorem dX1_count_119 : decode cX1_count 119 = .ok (.aload_n 0, 1) := by decide +kernel
theorem dX1_count_120 : decode cX1_count 120 = .ok (.getfield 12, 3) := by decide +kernel
theorem dX1_count_123 : decode cX1_count 123 = .ok (.iconst 1, 1) := by decide +kernel
theorem dX1_count_124 : decode cX1_count 124 = .ok (.invokevirtual 122, 3) := by decide +kernel
theorem dX1_count_127 : decode cX1_count 127 = .ok (.aload_n 0, 1) := by decide +kernel
theorem dX1_count_128 : decode cX1_count 128 = .ok (.getfield 16, 3) := by decide +kernel
theorem dX1_count_131 : decode cX1_count 131 = .ok (.iconst 1, 1) := by decide +kernel
theorem dX1_count_132 : decode cX1_count 132 = .ok (.invokevirtual 122, 3) := by decide +kernel
theorem dX1_count_135 : decode cX1_count 135 = .ok (.iadd, 1) := by decide +kernel
theorem dX1_count_136 : decode cX1_count 136 = .ok (.ireturn, 1) := by decide +kernel
theorem dX1_count_137 : decode cX1_count 137 = .ok (.aload_n 0, 1) := by decide +kernel
theorem dX1_count_138 : decode cX1_count 138 = .ok (.getfield 12, 3) := by decide +kernel
theorem dX1_count_141 : decode cX1_count 141 = .ok (.iconst 0, 1) := by decide +kernel
theorem dX1_count_142 : decode cX1_count 142 = .ok (.invokevirtual 122, 3) := by decide +kernel
theorem dX1_count_145 : decode cX1_count 145 = .ok (.aload_n 0, 1) := by decide +kernel
theorem dX1_count_146 : decode cX1_count 146 = .ok (.getfield 16, 3) := by decide +kernel
theorem dX1_count_149 : decode cX1_count 149 = .ok (.iconst 0, 1) := by decide +kernel
theorem dX1_count_150 : decode cX1_count 150 = .ok (.invokevirtual 122, 3) := by decide +kernel
theorem dX1_count_153 : decode cX1_count 153 = .ok (.iadd, 1) := by decide +kernel
theorem dX1_count_154 : decode cX1_count 154 = .ok (.ireturn, 1) := by decide +kernel
theorem dX1_panel_0 : decode cX1_panel 0 = .ok (.iload_n 1, 1) := by decide +kernel
theorem dX1_panel_1 : decode cX1_panel 1 = .ok (.ifCond .eq 10, 3) := by decide +kernel
theorem dX1_panel_4 : decode cX1_panel 4 = .ok (.aload_n 0, 1) := by decide +kernel
theorem dX1_panel_5 : decode cX1_panel 5 = .ok (.getfield 12, 3) := by decide +kernel
theorem dX1_panel_8 : decode cX1_panel 8 = .ok (.goto 7, 3) := by decide +kernel
theorem dX1_panel_11 : decode cX1_panel 11 = .ok (.aload_n 0, 1) := by decide +kernel
theorem dX1_panel_12 : decode cX1_panel 12 = .ok (.getfield 16, 3) := by decide +kernel
theorem dX1_panel_15 : decode cX1_panel 15 = .ok (.areturn, 1) := by decide +kernel
theorem dX1_requireEntry_0 : decode cX1_requireEntry 0 = .ok (.iload_n 1, 1) := by decide +kernel
theorem dX1_requireEntry_1 : decode cX1_requireEntry 1 = .ok (.ifCond .lt 11, 3) := by decide +kernel
theorem dX1_requireEntry_4 : decode cX1_requireEntry 4 = .ok (.iload_n 1, 1) := by decide +kernel
theorem dX1_requireEntry_5 : decode cX1_requireEntry 5 = .ok (.aload_n 0, 1) := by decide +kernel
theorem dX1_requireEntry_6 : decode cX1_requireEntry 6 = .ok (.getfield 26, 3) := by decide +kernel
theorem dX1_requireEntry_9 : decode cX1_requireEntry 9 = .ok (.if_icmp .lt 13, 3) := by decide +kernel
theorem dX1_requireEntry_12 : decode cX1_requireEntry 12 = .ok (.new 125, 3) := by decide +kernel
theorem dX1_requireEntry_15 : decode cX1_requireEntry 15 = .ok (.dup, 1) := by decide +kernel
theorem dX1_requireEntry_16 : decode cX1_requireEntry 16 = .ok (.ldc 127, 2) := by decide +kernel
theorem dX1_requireEntry_18 : decode cX1_requireEntry 18 = .ok (.invokespecial 129, 3) := by decide +kernel
theorem dX1_requireEntry_21 : decode cX1_requireEntry 21 = .ok (.athrow, 1) := by decide +kernel
theorem dX1_requireEntry_22 : decode cX1_requireEntry 22 = .ok (.return_, 1) := by decide +kernel
set_option maxRecDepth 20000 in
theorem ggX1_requireEntryOrNone_X1_requireEntry : GoodIn wsX1_requireEntryOrNone wsX1_requireEntry := goodIn_ca (goodIn_r _ [5, 6, 7, 8, 9, 10, 11, 12] (by decide +kernel) (by decide +kernel)) (goodIn_sub (fun _ h => List.mem_cons_of_mem _ (List.mem_append_right _ h)) (by decide +kernel))
set_option maxRecDepth 20000 in
theorem gX1_requireEntryOrNone_X1_requireEntry : GoodIn wsX1_requireEntryOrNone (wsV RX1 37 RX1 yX1_requireEntry wsX1_requireEntry) := goodIn_app (goodIn_of _ (by decide +kernel)) ggX1_requireEntryOrNone_X1_requireEntry
theorem dX1_requireEntryOrNone_0 : decode cX1_requireEntryOrNone 0 = .ok (.iload_n 1, 1) := by decide +kernel
theorem dX1_requireEntryOrNone_1 : decode cX1_requireEntryOrNone 1 = .ok (.iconst (-1), 1) := by decide +kernel
theorem dX1_requireEntryOrNone_2 : decode cX1_requireEntryOrNone 2 = .ok (.if_icmp .eq 8, 3) := by decide +kernel
theorem dX1_requireEntryOrNone_5 : decode cX1_requireEntryOrNone 5 = .ok (.aload_n 0, 1) := by decide +kernel
theorem dX1_requireEntryOrNone_6 : decode cX1_requireEntryOrNone 6 = .ok (.iload_n 1, 1) := by decide +kernel
theorem dX1_requireEntryOrNone_7 : decode cX1_requireEntryOrNone 7 = .ok (.invokevirtual 37, 3) := by decide +kernel
theorem dX1_requireEntryOrNone_10 : decode cX1_requireEntryOrNone 10 = .ok (.return_, 1) := by decide +kernel
theorem dX1_requireSeat_0 : decode cX1_requireSeat 0 = .ok (.iload_n 0, 1) := by decide +kernel
theorem dX1_requireSeat_1 : decode cX1_requireSeat 1 = .ok (.ifCond .lt 8, 3) := by decide +kernel
theorem dX1_requireSeat_4 : decode cX1_requireSeat 4 = .ok (.iload_n 0, 1) := by decide +kernel
theorem dX1_requireSeat_5 : decode cX1_requireSeat 5 = .ok (.iconst 5, 1) := by decide +kernel
theorem dX1_requireSeat_6 : decode cX1_requireSeat 6 = .ok (.if_icmp .lt 13, 3) := by decide +kernel
theorem dX1_requireSeat_9 : decode cX1_requireSeat 9 = .ok (.new 125, 3) := by decide +kernel
theorem dX1_requireSeat_12 : decode cX1_requireSeat 12 = .ok (.dup, 1) := by decide +kernel
theorem dX1_requireSeat_13 : decode cX1_requireSeat 13 = .ok (.ldc 130, 2) := by decide +kernel
theorem dX1_requireSeat_15 : decode cX1_requireSeat 15 = .ok (.invokespecial 129, 3) := by decide +kernel
theorem dX1_requireSeat_18 : decode cX1_requireSeat 18 = .ok (.athrow, 1) := by decide +kernel
theorem dX1_requireSeat_19 : decode cX1_requireSeat 19 = .ok (.return_, 1) := by decide +kernel
theorem dX1_requireBelow_0 : decode cX1_requireBelow 0 = .ok (.iload_n 0, 1) := by decide +kernel
theorem dX1_requireBelow_1 : decode cX1_requireBelow 1 = .ok (.ifCond .lt 8, 3) := by decide +kernel
theorem dX1_requireBelow_4 : decode cX1_requireBelow 4 = .ok (.iload_n 0, 1) := by decide +kernel
theorem dX1_requireBelow_5 : decode cX1_requireBelow 5 = .ok (.iload_n 1, 1) := by decide +kernel
theorem dX1_requireBelow_6 : decode cX1_requireBelow 6 = .ok (.if_icmp .lt 13, 3) := by decide +kernel
theorem dX1_requireBelow_9 : decode cX1_requireBelow 9 = .ok (.new 132, 3) := by decide +kernel
theorem dX1_requireBelow_12 : decode cX1_requireBelow 12 = .ok (.dup, 1) := by decide +kernel
theorem dX1_requireBelow_13 : decode cX1_requireBelow 13 = .ok (.ldc 134, 2) := by decide +kernel
theorem dX1_requireBelow_15 : decode cX1_requireBelow 15 = .ok (.invokespecial 136, 3) := by decide +kernel
theorem dX1_requireBelow_18 : decode cX1_requireBelow 18 = .ok (.athrow, 1) := by decide +kernel
theorem dX1_requireBelow_19 : decode cX1_requireBelow 19 = .ok (.return_, 1) := by decide +kernel
theorem dX1_rowOf_0 : decode cX1_rowOf 0 = .ok (.iload_n 0, 1) := by decide +kernel
theorem dX1_rowOf_1 : decode cX1_rowOf 1 = .ok (.iconst (-1), 1) := by decide +kernel
theorem dX1_rowOf_2 : decode cX1_rowOf 2 = .ok (.if_icmp .ne 8, 3) := by decide +kernel
theorem dX1_rowOf_5 : decode cX1_rowOf 5 = .ok (.bipush 6, 2) := by decide +kernel
theorem dX1_rowOf_7 : decode cX1_rowOf 7 = .ok (.goto 4, 3) := by decide +kernel
theorem dX1_rowOf_10 : decode cX1_rowOf 10 = .ok (.iload_n 0, 1) := by decide +kernel
theorem dX1_rowOf_11 : decode cX1_rowOf 11 = .ok (.ireturn, 1) := by decide +kernel
theorem dX1_cellOf_0 : decode cX1_cellOf 0 = .ok (.iload_n 0, 1) := by decide +kernel
theorem dX1_cellOf_1 : decode cX1_cellOf 1 = .ok (.iconst 5, 1) := by decide +kernel
theorem dX1_cellOf_2 : decode cX1_cellOf 2 = .ok (.imul, 1) := by decide +kernel
theorem dX1_cellOf_3 : decode cX1_cellOf 3 = .ok (.iload_n 1, 1) := by decide +kernel
theorem dX1_cellOf_4 : decode cX1_cellOf 4 = .ok (.iadd, 1) := by decide +kernel
theorem dX1_cellOf_5 : decode cX1_cellOf 5 = .ok (.ireturn, 1) := by decide +kernel
theorem dX2_init_0 : decode cX2_init 0 = .ok (.aload_n 0, 1) := by decide +kernel
theorem dX2_init_1 : decode cX2_init 1 = .ok (.invokespecial 1, 3) := by decide +kernel
theorem dX2_init_4 : decode cX2_init 4 = .ok (.aload_n 0, 1) := by decide +kernel
theorem dX2_init_5 : decode cX2_init 5 = .ok (.bipush 70, 2) := by decide +kernel
theorem dX2_init_7 : decode cX2_init 7 = .ok (.newarray .double, 2) := by decide +kernel
theorem dX2_init_9 : decode cX2_init 9 = .ok (.putfield 7, 3) := by decide +kernel
theorem dX2_init_12 : decode cX2_init 12 = .ok (.aload_n 0, 1) := by decide +kernel
theorem dX2_init_13 : decode cX2_init 13 = .ok (.bipush 70, 2) := by decide +kernel
theorem dX2_init_15 : decode cX2_init 15 = .ok (.newarray .boolean, 2) := by decide +kernel
theorem dX2_init_17 : decode cX2_init 17 = .ok (.putfield 13, 3) := by decide +kernel
theorem dX2_init_20 : decode cX2_init 20 = .ok (.aload_n 0, 1) := by decide +kernel
theorem dX2_init_21 : decode cX2_init 21 = .ok (.bipush 60, 2) := by decide +kernel
theorem dX2_init_23 : decode cX2_init 23 = .ok (.newarray .int, 2) := by decide +kernel
theorem dX2_init_25 : decode cX2_init 25 = .ok (.putfield 17, 3) := by decide +kernel
theorem dX2_init_28 : decode cX2_init 28 = .ok (.aload_n 0, 1) := by decide +kernel
theorem dX2_init_29 : decode cX2_init 29 = .ok (.bipush 6, 2) := by decide +kernel
theorem dX2_init_31 : decode cX2_init 31 = .ok (.newarray .int, 2) := by decide +kernel
theorem dX2_init_33 : decode cX2_init 33 = .ok (.putfield 21, 3) := by decide +kernel
theorem dX2_init_36 : decode cX2_init 36 = .ok (.iconst 0, 1) := by decide +kernel
theorem dX2_init_37 : decode cX2_init 37 = .ok (.istore_n 1, 1) := by decide +kernel
theorem dX2_init_38 : decode cX2_init 38 = .ok (.iload_n 1, 1) := by decide +kernel
theorem dX2_init_39 : decode cX2_init 39 = .ok (.bipush 60, 2) := by decide +kernel
theorem dX2_init_41 : decode cX2_init 41 = .ok (.if_icmp .ge 16, 3) := by decide +kernel
theorem dX2_init_44 : decode cX2_init 44 = .ok (.aload_n 0, 1) := by decide +kernel
theorem dX2_init_45 : decode cX2_init 45 = .ok (.getfield 17, 3) := by decide +kernel
theorem dX2_init_48 : decode cX2_init 48 = .ok (.iload_n 1, 1) := by decide +kernel
theorem dX2_init_49 : decode cX2_init 49 = .ok (.iconst (-1), 1) := by decide +kernel
theorem dX2_init_50 : decode cX2_init 50 = .ok (.iastore, 1) := by decide +kernel
theorem dX2_init_51 : decode cX2_init 51 = .ok (.iinc 1 1, 3) := by decide +kernel
theorem dX2_init_54 : decode cX2_init 54 = .ok (.goto (-16), 3) := by decide +kernel
theorem dX2_init_57 : decode cX2_init 57 = .ok (.return_, 1) := by decide +kernel
theorem dX2_thrown_0 : decode cX2_thrown 0 = .ok (.aload_n 0, 1) := by decide +kernel
theorem dX2_thrown_1 : decode cX2_thrown 1 = .ok (.getfield 24, 3) := by decide +kernel
theorem dX2_thrown_4 : decode cX2_thrown 4 = .ok (.ireturn, 1) := by decide +kernel
theorem dX2_in_0 : decode cX2_in 0 = .ok (.iload_n 0, 1) := by decide +kernel
theorem dX2_in_1 : decode cX2_in 1 = .ok (.ifCond .lt 12, 3) := by decide +kernel
theorem dX2_in_4 : decode cX2_in 4 = .ok (.iload_n 0, 1) := by decide +kernel
theorem dX2_in_5 : decode cX2_in 5 = .ok (.iload_n 1, 1) := by decide +kernel
theorem dX2_in_6 : decode cX2_in 6 = .ok (.if_icmp .ge 7, 3) := by decide +kernel
theorem dX2_in_9 : decode cX2_in 9 = .ok (.iconst 1, 1) := by decide +kernel
theorem dX2_in_10 : decode cX2_in 10 = .ok (.goto 4, 3) := by decide +kernel
theorem dX2_in_13 : decode cX2_in 13 = .ok (.iconst 0, 1) := by decide +kernel
theorem dX2_in_14 : decode cX2_in 14 = .ok (.ireturn, 1) := by decide +kernel
theorem dX2_cell_0 : decode cX2_cell 0 = .ok (.iload_n 0, 1) := by decide +kernel
theorem dX2_cell_1 : decode cX2_cell 1 = .ok (.ifCond .eq 7, 3) := by decide +kernel
theorem dX2_cell_4 : decode cX2_cell 4 = .ok (.iconst 0, 1) := by decide +kernel
theorem dX2_cell_5 : decode cX2_cell 5 = .ok (.goto 5, 3) := by decide +kernel
theorem dX2_cell_8 : decode cX2_cell 8 = .ok (.bipush 30, 2) := by decide +kernel
theorem dX2_cell_10 : decode cX2_cell 10 = .ok (.iconst 5, 1) := by decide +kernel
theorem dX2_cell_11 : decode cX2_cell 11 = .ok (.iload_n 1, 1) := by decide +kernel
theorem dX2_cell_12 : decode cX2_cell 12 = .ok (.imul, 1) := by decide +kernel
theorem dX2_cell_13 : decode cX2_cell 13 = .ok (.iadd, 1) := by decide +kernel
theorem dX2_cell_14 : decode cX2_cell 14 = .ok (.iload_n 2, 1) := by decide +kernel
theorem dX2_cell_15 : decode cX2_cell 15 = .ok (.iadd, 1) := by decide +kernel
theorem dX2_cell_16 : decode cX2_cell 16 = .ok (.ireturn, 1) := by decide +kernel
theorem dX2_limit_0 : decode cX2_limit 0 = .ok (.bipush 60, 2) := by decide +kernel
theorem dX2_limit_2 : decode cX2_limit 2 = .ok (.iload_n 0, 1) := by decide +kernel
theorem dX2_limit_3 : decode cX2_limit 3 = .ok (.ifCond .eq 7, 3) := by decide +kernel
theorem dX2_limit_6 : decode cX2_limit 6 = .ok (.iconst 0, 1) := by decide +kernel
theorem dX2_limit_7 : decode cX2_limit 7 = .ok (.goto 4, 3) := by decide +kernel
theorem dX2_limit_10 : decode cX2_limit 10 = .ok (.iconst 5, 1) := by decide +kernel
theorem dX2_limit_11 : decode cX2_limit 11 = .ok (.iadd, 1) := by decide +kernel
theorem dX2_limit_12 : decode cX2_limit 12 = .ok (.iload_n 1, 1) := by decide +kernel
theorem dX2_limit_13 : decode cX2_limit 13 = .ok (.iadd, 1) := by decide +kernel
theorem dX2_limit_14 : decode cX2_limit 14 = .ok (.ireturn, 1) := by decide +kernel
theorem dX2_fail_0 : decode cX2_fail 0 = .ok (.aload_n 0, 1) := by decide +kernel
theorem dX2_fail_1 : decode cX2_fail 1 = .ok (.iload_n 1, 1) := by decide +kernel
theorem dX2_fail_2 : decode cX2_fail 2 = .ok (.putfield 24, 3) := by decide +kernel
theorem dX2_fail_5 : decode cX2_fail 5 = .ok (.iconst 0, 1) := by decide +kernel
theorem dX2_fail_6 : decode cX2_fail 6 = .ok (.ireturn, 1) := by decide +kernel
set_option maxRecDepth 20000 in
theorem ggX2_hasEntry_X2_in : GoodIn wsX2_hasEntry wsX2_in := goodIn_r _ [5] (by decide +kernel) (by decide +kernel)
set_option maxRecDepth 20000 in
theorem gX2_hasEntry_X2_in : GoodIn wsX2_hasEntry (va_wsS RX2 31 yX2_in wsX2_in) := goodIn_app (goodIn_of _ (by decide +kernel)) ggX2_hasEntry_X2_in
set_option maxRecDepth 20000 in
theorem ggX2_hasEntry_X2_fail : GoodIn wsX2_hasEntry wsX2_fail := goodIn_r _ [9, 10, 11, 12, 13, 14, 15, 16] (by decide +kernel) (by decide +kernel)
set_option maxRecDepth 20000 in
theorem gX2_hasEntry_X2_fail : GoodIn wsX2_hasEntry (wsV RX2 35 RX2 yX2_fail wsX2_fail) := goodIn_app (goodIn_of _ (by decide +kernel)) ggX2_hasEntry_X2_fail
theorem dX2_hasEntry_0 : decode cX2_hasEntry 0 = .ok (.iload_n 1, 1) := by decide +kernel
theorem dX2_hasEntry_1 : decode cX2_hasEntry 1 = .ok (.aload_n 0, 1) := by decide +kernel
theorem dX2_hasEntry_2 : decode cX2_hasEntry 2 = .ok (.getfield 28, 3) := by decide +kernel
theorem dX2_hasEntry_5 : decode cX2_hasEntry 5 = .ok (.invokestatic 31, 3) := by decide +kernel
theorem dX2_hasEntry_8 : decode cX2_hasEntry 8 = .ok (.ifCond .ne 11, 3) := by decide +kernel
theorem dX2_hasEntry_11 : decode cX2_hasEntry 11 = .ok (.aload_n 0, 1) := by decide +kernel
theorem dX2_hasEntry_12 : decode cX2_hasEntry 12 = .ok (.iconst 1, 1) := by decide +kernel
theorem dX2_hasEntry_13 : decode cX2_hasEntry 13 = .ok (.invokevirtual 35, 3) := by decide +kernel
theorem dX2_hasEntry_16 : decode cX2_hasEntry 16 = .ok (.ifCond .eq 7, 3) := by decide +kernel
theorem dX2_hasEntry_19 : decode cX2_hasEntry 19 = .ok (.iconst 1, 1) := by decide +kernel
theorem dX2_hasEntry_20 : decode cX2_hasEntry 20 = .ok (.goto 4, 3) := by decide +kernel
theorem dX2_hasEntry_23 : decode cX2_hasEntry 23 = .ok (.iconst 0, 1) := by decide +kernel
theorem dX2_hasEntry_24 : decode cX2_hasEntry 24 = .ok (.ireturn, 1) := by decide +kernel
set_option maxRecDepth 20000 in
theorem ggX2_hasSeat_X2_in : GoodIn wsX2_hasSeat wsX2_in := goodIn_r _ [4] (by decide +kernel) (by decide +kernel)
set_option maxRecDepth 20000 in
theorem gX2_hasSeat_X2_in : GoodIn wsX2_hasSeat (va_wsS RX2 31 yX2_in wsX2_in) := goodIn_app (goodIn_of _ (by decide +kernel)) ggX2_hasSeat_X2_in
set_option maxRecDepth 20000 in
theorem ggX2_hasSeat_X2_fail : GoodIn wsX2_hasSeat wsX2_fail := goodIn_r _ [8, 9, 10, 11, 12, 13, 14, 15] (by decide +kernel) (by decide +kernel)
set_option maxRecDepth 20000 in
theorem gX2_hasSeat_X2_fail : GoodIn wsX2_hasSeat (wsV RX2 35 RX2 yX2_fail wsX2_fail) := goodIn_app (goodIn_of _ (by decide +kernel)) ggX2_hasSeat_X2_fail
theorem dX2_hasSeat_0 : decode cX2_hasSeat 0 = .ok (.iload_n 1, 1) := by decide +kernel
theorem dX2_hasSeat_1 : decode cX2_hasSeat 1 = .ok (.iconst 5, 1) := by decide +kernel
theorem dX2_hasSeat_2 : decode cX2_hasSeat 2 = .ok (.invokestatic 31, 3) := by decide +kernel
theorem dX2_hasSeat_5 : decode cX2_hasSeat 5 = .ok (.ifCond .ne 11, 3) := by decide +kernel
theorem dX2_hasSeat_8 : decode cX2_hasSeat 8 = .ok (.aload_n 0, 1) := by decide +kernel
theorem dX2_hasSeat_9 : decode cX2_hasSeat 9 = .ok (.iconst 1, 1) := by decide +kernel
theorem dX2_hasSeat_10 : decode cX2_hasSeat 10 = .ok (.invokevirtual 35, 3) := by decide +kernel
theorem dX2_hasSeat_13 : decode cX2_hasSeat 13 = .ok (.ifCond .eq 7, 3) := by decide +kernel
theorem dX2_hasSeat_16 : decode cX2_hasSeat 16 = .ok (.iconst 1, 1) := by decide +kernel
theorem dX2_hasSeat_17 : decode cX2_hasSeat 17 = .ok (.goto 4, 3) := by decide +kernel
theorem dX2_hasSeat_20 : decode cX2_hasSeat 20 = .ok (.iconst 0, 1) := by decide +kernel
theorem dX2_hasSeat_21 : decode cX2_hasSeat 21 = .ok (.ireturn, 1) := by decide +kernel
set_option maxRecDepth 20000 in
theorem ggX2_isWay_X2_in : GoodIn wsX2_isWay wsX2_in := goodIn_r _ [4] (by decide +kernel) (by decide +kernel)
set_option maxRecDepth 20000 in
theorem gX2_isWay_X2_in : GoodIn wsX2_isWay (va_wsS RX2 31 yX2_in wsX2_in) := goodIn_app (goodIn_of _ (by decide +kernel)) ggX2_isWay_X2_in
set_option maxRecDepth 20000 in
theorem ggX2_isWay_X2_fail : GoodIn wsX2_isWay wsX2_fail := goodIn_r _ [8, 9, 10, 11, 12, 13, 14, 15] (by decide +kernel) (by decide +kernel)
set_option maxRecDepth 20000 in
theorem gX2_isWay_X2_fail : GoodIn wsX2_isWay (wsV RX2 35 RX2 yX2_fail wsX2_fail) := goodIn_app (goodIn_of _ (by decide +kernel)) ggX2_isWay_X2_fail
theorem dX2_isWay_0 : decode cX2_isWay 0 = .ok (.iload_n 1, 1) := by decide +kernel
theorem dX2_isWay_1 : decode cX2_isWay 1 = .ok (.bipush 24, 2) := by decide +kernel
theorem dX2_isWay_3 : decode cX2_isWay 3 = .ok (.invokestatic 31, 3) := by decide +kernel
theorem dX2_isWay_6 : decode cX2_isWay 6 = .ok (.ifCond .ne 11, 3) := by decide +kernel
theorem dX2_isWay_9 : decode cX2_isWay 9 = .ok (.aload_n 0, 1) := by decide +kernel
theorem dX2_isWay_10 : decode cX2_isWay 10 = .ok (.iconst 2, 1) := by decide +kernel
theorem dX2_isWay_11 : decode cX2_isWay 11 = .ok (.invokevirtual 35, 3) := by decide +kernel
theorem dX2_isWay_14 : decode cX2_isWay 14 = .ok (.ifCond .eq 7, 3) := by decide +kernel
theorem dX2_isWay_17 : decode cX2_isWay 17 = .ok (.iconst 1, 1) := by decide +kernel
theorem dX2_isWay_18 : decode cX2_isWay 18 = .ok (.goto 4, 3) := by decide +kernel
