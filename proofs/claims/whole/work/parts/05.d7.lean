theorem dX7_init_0 : decode cX7_init 0 = .ok (.aload_n 0, 1) := by decide +kernel
theorem dX7_init_1 : decode cX7_init 1 = .ok (.invokespecial 1, 3) := by decide +kernel
theorem dX7_init_4 : decode cX7_init 4 = .ok (.aload_n 0, 1) := by decide +kernel
theorem dX7_init_5 : decode cX7_init 5 = .ok (.sipush 160, 3) := by decide +kernel
theorem dX7_init_8 : decode cX7_init 8 = .ok (.newarray .int, 2) := by decide +kernel
theorem dX7_init_10 : decode cX7_init 10 = .ok (.putfield 7, 3) := by decide +kernel
theorem dX7_init_13 : decode cX7_init 13 = .ok (.aload_n 0, 1) := by decide +kernel
theorem dX7_init_14 : decode cX7_init 14 = .ok (.sipush 160, 3) := by decide +kernel
theorem dX7_init_17 : decode cX7_init 17 = .ok (.newarray .int, 2) := by decide +kernel
theorem dX7_init_19 : decode cX7_init 19 = .ok (.putfield 13, 3) := by decide +kernel
theorem dX7_init_22 : decode cX7_init 22 = .ok (.aload_n 0, 1) := by decide +kernel
theorem dX7_init_23 : decode cX7_init 23 = .ok (.sipush 160, 3) := by decide +kernel
theorem dX7_init_26 : decode cX7_init 26 = .ok (.newarray .int, 2) := by decide +kernel
theorem dX7_init_28 : decode cX7_init 28 = .ok (.putfield 16, 3) := by decide +kernel
theorem dX7_init_31 : decode cX7_init 31 = .ok (.aload_n 0, 1) := by decide +kernel
theorem dX7_init_32 : decode cX7_init 32 = .ok (.sipush 160, 3) := by decide +kernel
theorem dX7_init_35 : decode cX7_init 35 = .ok (.newarray .int, 2) := by decide +kernel
theorem dX7_init_37 : decode cX7_init 37 = .ok (.putfield 19, 3) := by decide +kernel
theorem dX7_init_40 : decode cX7_init 40 = .ok (.aload_n 0, 1) := by decide +kernel
theorem dX7_init_41 : decode cX7_init 41 = .ok (.sipush 160, 3) := by decide +kernel
theorem dX7_init_44 : decode cX7_init 44 = .ok (.newarray .int, 2) := by decide +kernel
theorem dX7_init_46 : decode cX7_init 46 = .ok (.putfield 22, 3) := by decide +kernel
theorem dX7_init_49 : decode cX7_init 49 = .ok (.aload_n 0, 1) := by decide +kernel
theorem dX7_init_50 : decode cX7_init 50 = .ok (.sipush 160, 3) := by decide +kernel
theorem dX7_init_53 : decode cX7_init 53 = .ok (.newarray .int, 2) := by decide +kernel
theorem dX7_init_55 : decode cX7_init 55 = .ok (.putfield 25, 3) := by decide +kernel
theorem dX7_init_58 : decode cX7_init 58 = .ok (.aload_n 0, 1) := by decide +kernel
theorem dX7_init_59 : decode cX7_init 59 = .ok (.sipush 160, 3) := by decide +kernel
theorem dX7_init_62 : decode cX7_init 62 = .ok (.newarray .long, 2) := by decide +kernel
theorem dX7_init_64 : decode cX7_init 64 = .ok (.putfield 28, 3) := by decide +kernel
theorem dX7_init_67 : decode cX7_init 67 = .ok (.aload_n 0, 1) := by decide +kernel
theorem dX7_init_68 : decode cX7_init 68 = .ok (.sipush 160, 3) := by decide +kernel
theorem dX7_init_71 : decode cX7_init 71 = .ok (.newarray .int, 2) := by decide +kernel
theorem dX7_init_73 : decode cX7_init 73 = .ok (.putfield 32, 3) := by decide +kernel
theorem dX7_init_76 : decode cX7_init 76 = .ok (.aload_n 0, 1) := by decide +kernel
theorem dX7_init_77 : decode cX7_init 77 = .ok (.sipush 160, 3) := by decide +kernel
theorem dX7_init_80 : decode cX7_init 80 = .ok (.newarray .int, 2) := by decide +kernel
theorem dX7_init_82 : decode cX7_init 82 = .ok (.putfield 35, 3) := by decide +kernel
theorem dX7_init_85 : decode cX7_init 85 = .ok (.aload_n 0, 1) := by decide +kernel
theorem dX7_init_86 : decode cX7_init 86 = .ok (.sipush 160, 3) := by decide +kernel
theorem dX7_init_89 : decode cX7_init 89 = .ok (.newarray .int, 2) := by decide +kernel
theorem dX7_init_91 : decode cX7_init 91 = .ok (.putfield 38, 3) := by decide +kernel
theorem dX7_init_94 : decode cX7_init 94 = .ok (.aload_n 0, 1) := by decide +kernel
theorem dX7_init_95 : decode cX7_init 95 = .ok (.bipush 6, 2) := by decide +kernel
theorem dX7_init_97 : decode cX7_init 97 = .ok (.newarray .int, 2) := by decide +kernel
theorem dX7_init_99 : decode cX7_init 99 = .ok (.putfield 41, 3) := by decide +kernel
theorem dX7_init_102 : decode cX7_init 102 = .ok (.aload_n 0, 1) := by decide +kernel
theorem dX7_init_103 : decode cX7_init 103 = .ok (.bipush 6, 2) := by decide +kernel
theorem dX7_init_105 : decode cX7_init 105 = .ok (.newarray .int, 2) := by decide +kernel
theorem dX7_init_107 : decode cX7_init 107 = .ok (.putfield 44, 3) := by decide +kernel
theorem dX7_init_110 : decode cX7_init 110 = .ok (.aload_n 0, 1) := by decide +kernel
theorem dX7_init_111 : decode cX7_init 111 = .ok (.iconst 1, 1) := by decide +kernel
theorem dX7_init_112 : decode cX7_init 112 = .ok (.putfield 47, 3) := by decide +kernel
theorem dX7_init_115 : decode cX7_init 115 = .ok (.aload_n 0, 1) := by decide +kernel
theorem dX7_init_116 : decode cX7_init 116 = .ok (.sipush 1920, 3) := by decide +kernel
theorem dX7_init_119 : decode cX7_init 119 = .ok (.putfield 51, 3) := by decide +kernel
theorem dX7_init_122 : decode cX7_init 122 = .ok (.aload_n 0, 1) := by decide +kernel
theorem dX7_init_123 : decode cX7_init 123 = .ok (.bipush 64, 2) := by decide +kernel
theorem dX7_init_125 : decode cX7_init 125 = .ok (.newarray .int, 2) := by decide +kernel
theorem dX7_init_127 : decode cX7_init 127 = .ok (.putfield 55, 3) := by decide +kernel
theorem dX7_init_130 : decode cX7_init 130 = .ok (.aload_n 0, 1) := by decide +kernel
theorem dX7_init_131 : decode cX7_init 131 = .ok (.bipush 64, 2) := by decide +kernel
theorem dX7_init_133 : decode cX7_init 133 = .ok (.newarray .int, 2) := by decide +kernel
theorem dX7_init_135 : decode cX7_init 135 = .ok (.putfield 58, 3) := by decide +kernel
theorem dX7_init_138 : decode cX7_init 138 = .ok (.aload_n 0, 1) := by decide +kernel
theorem dX7_init_139 : decode cX7_init 139 = .ok (.bipush 64, 2) := by decide +kernel
theorem dX7_init_141 : decode cX7_init 141 = .ok (.newarray .int, 2) := by decide +kernel
theorem dX7_init_143 : decode cX7_init 143 = .ok (.putfield 61, 3) := by decide +kernel
theorem dX7_init_146 : decode cX7_init 146 = .ok (.aload_n 0, 1) := by decide +kernel
theorem dX7_init_147 : decode cX7_init 147 = .ok (.iconst 2, 1) := by decide +kernel
theorem dX7_init_148 : decode cX7_init 148 = .ok (.newarray .boolean, 2) := by decide +kernel
theorem dX7_init_150 : decode cX7_init 150 = .ok (.putfield 64, 3) := by decide +kernel
theorem dX7_init_153 : decode cX7_init 153 = .ok (.aload_n 0, 1) := by decide +kernel
theorem dX7_init_154 : decode cX7_init 154 = .ok (.iconst 2, 1) := by decide +kernel
theorem dX7_init_155 : decode cX7_init 155 = .ok (.newarray .boolean, 2) := by decide +kernel
theorem dX7_init_157 : decode cX7_init 157 = .ok (.putfield 68, 3) := by decide +kernel
theorem dX7_init_160 : decode cX7_init 160 = .ok (.aload_n 0, 1) := by decide +kernel
theorem dX7_init_161 : decode cX7_init 161 = .ok (.iconst 2, 1) := by decide +kernel
theorem dX7_init_162 : decode cX7_init 162 = .ok (.newarray .long, 2) := by decide +kernel
theorem dX7_init_164 : decode cX7_init 164 = .ok (.putfield 71, 3) := by decide +kernel
theorem dX7_init_167 : decode cX7_init 167 = .ok (.return_, 1) := by decide +kernel
theorem dX7_thrown_0 : decode cX7_thrown 0 = .ok (.aload_n 0, 1) := by decide +kernel
theorem dX7_thrown_1 : decode cX7_thrown 1 = .ok (.getfield 74, 3) := by decide +kernel
theorem dX7_thrown_4 : decode cX7_thrown 4 = .ok (.ireturn, 1) := by decide +kernel
theorem dX7_type_0 : decode cX7_type 0 = .ok (.aload_n 0, 1) := by decide +kernel
theorem dX7_type_1 : decode cX7_type 1 = .ok (.iconst 0, 1) := by decide +kernel
theorem dX7_type_2 : decode cX7_type 2 = .ok (.putfield 74, 3) := by decide +kernel
theorem dX7_type_5 : decode cX7_type 5 = .ok (.iload_n 3, 1) := by decide +kernel
theorem dX7_type_6 : decode cX7_type 6 = .ok (.iconst 1, 1) := by decide +kernel
theorem dX7_type_7 : decode cX7_type 7 = .ok (.if_icmp .lt 21, 3) := by decide +kernel
theorem dX7_type_10 : decode cX7_type 10 = .ok (.iload_n 3, 1) := by decide +kernel
theorem dX7_type_11 : decode cX7_type 11 = .ok (.bipush 8, 2) := by decide +kernel
theorem dX7_type_13 : decode cX7_type 13 = .ok (.if_icmp .gt 15, 3) := by decide +kernel
theorem dX7_type_16 : decode cX7_type 16 = .ok (.aload_n 0, 1) := by decide +kernel
theorem dX7_type_17 : decode cX7_type 17 = .ok (.getfield 77, 3) := by decide +kernel
theorem dX7_type_20 : decode cX7_type 20 = .ok (.iload_n 3, 1) := by decide +kernel
theorem dX7_type_21 : decode cX7_type 21 = .ok (.iadd, 1) := by decide +kernel
theorem dX7_type_22 : decode cX7_type 22 = .ok (.sipush 160, 3) := by decide +kernel
theorem dX7_type_25 : decode cX7_type 25 = .ok (.if_icmp .le 5, 3) := by decide +kernel
theorem dX7_type_28 : decode cX7_type 28 = .ok (.iconst 0, 1) := by decide +kernel
theorem dX7_type_29 : decode cX7_type 29 = .ok (.ireturn, 1) := by decide +kernel
theorem dX7_type_30 : decode cX7_type 30 = .ok (.iconst 0, 1) := by decide +kernel
theorem dX7_type_31 : decode cX7_type 31 = .ok (.istore 4, 2) := by decide +kernel
theorem dX7_type_33 : decode cX7_type 33 = .ok (.iload 4, 2) := by decide +kernel
theorem dX7_type_35 : decode cX7_type 35 = .ok (.iload_n 3, 1) := by decide +kernel
theorem dX7_type_36 : decode cX7_type 36 = .ok (.if_icmp .ge 42, 3) := by decide +kernel
theorem dX7_type_39 : decode cX7_type 39 = .ok (.lload_n 1, 1) := by decide +kernel
theorem dX7_type_40 : decode cX7_type 40 = .ok (.bipush 8, 2) := by decide +kernel
theorem dX7_type_42 : decode cX7_type 42 = .ok (.iload 4, 2) := by decide +kernel
theorem dX7_type_44 : decode cX7_type 44 = .ok (.imul, 1) := by decide +kernel
theorem dX7_type_45 : decode cX7_type 45 = .ok (.lshr, 1) := by decide +kernel
theorem dX7_type_46 : decode cX7_type 46 = .ok (.ldc2_w 80, 3) := by decide +kernel
theorem dX7_type_49 : decode cX7_type 49 = .ok (.land, 1) := by decide +kernel
theorem dX7_type_50 : decode cX7_type 50 = .ok (.lstore 5, 2) := by decide +kernel
theorem dX7_type_52 : decode cX7_type 52 = .ok (.lload 5, 2) := by decide +kernel
theorem dX7_type_54 : decode cX7_type 54 = .ok (.ldc2_w 82, 3) := by decide +kernel
theorem dX7_type_57 : decode cX7_type 57 = .ok (.lcmp, 1) := by decide +kernel
theorem dX7_type_58 : decode cX7_type 58 = .ok (.ifCond .lt 12, 3) := by decide +kernel
theorem dX7_type_61 : decode cX7_type 61 = .ok (.lload 5, 2) := by decide +kernel
theorem dX7_type_63 : decode cX7_type 63 = .ok (.ldc2_w 84, 3) := by decide +kernel
theorem dX7_type_66 : decode cX7_type 66 = .ok (.lcmp, 1) := by decide +kernel
theorem dX7_type_67 : decode cX7_type 67 = .ok (.ifCond .le 5, 3) := by decide +kernel
theorem dX7_type_70 : decode cX7_type 70 = .ok (.iconst 0, 1) := by decide +kernel
theorem dX7_type_71 : decode cX7_type 71 = .ok (.ireturn, 1) := by decide +kernel
theorem dX7_type_72 : decode cX7_type 72 = .ok (.iinc 4 1, 3) := by decide +kernel
theorem dX7_type_75 : decode cX7_type 75 = .ok (.goto (-42), 3) := by decide +kernel
theorem dX7_type_78 : decode cX7_type 78 = .ok (.iload_n 3, 1) := by decide +kernel
theorem dX7_type_79 : decode cX7_type 79 = .ok (.iconst 1, 1) := by decide +kernel
theorem dX7_type_80 : decode cX7_type 80 = .ok (.isub, 1) := by decide +kernel
theorem dX7_type_81 : decode cX7_type 81 = .ok (.istore 4, 2) := by decide +kernel
theorem dX7_type_83 : decode cX7_type 83 = .ok (.iload 4, 2) := by decide +kernel
theorem dX7_type_85 : decode cX7_type 85 = .ok (.ifCond .lt 40, 3) := by decide +kernel
theorem dX7_type_88 : decode cX7_type 88 = .ok (.aload_n 0, 1) := by decide +kernel
theorem dX7_type_89 : decode cX7_type 89 = .ok (.getfield 7, 3) := by decide +kernel
theorem dX7_type_92 : decode cX7_type 92 = .ok (.aload_n 0, 1) := by decide +kernel
theorem dX7_type_93 : decode cX7_type 93 = .ok (.getfield 77, 3) := by decide +kernel
theorem dX7_type_96 : decode cX7_type 96 = .ok (.lload_n 1, 1) := by decide +kernel
theorem dX7_type_97 : decode cX7_type 97 = .ok (.bipush 8, 2) := by decide +kernel
theorem dX7_type_99 : decode cX7_type 99 = .ok (.iload 4, 2) := by decide +kernel
theorem dX7_type_101 : decode cX7_type 101 = .ok (.imul, 1) := by decide +kernel
theorem dX7_type_102 : decode cX7_type 102 = .ok (.lshr, 1) := by decide +kernel
theorem dX7_type_103 : decode cX7_type 103 = .ok (.ldc2_w 80, 3) := by decide +kernel
theorem dX7_type_106 : decode cX7_type 106 = .ok (.land, 1) := by decide +kernel
theorem dX7_type_107 : decode cX7_type 107 = .ok (.l2i, 1) := by decide +kernel
theorem dX7_type_108 : decode cX7_type 108 = .ok (.iastore, 1) := by decide +kernel
theorem dX7_type_109 : decode cX7_type 109 = .ok (.aload_n 0, 1) := by decide +kernel
theorem dX7_type_110 : decode cX7_type 110 = .ok (.dup, 1) := by decide +kernel
theorem dX7_type_111 : decode cX7_type 111 = .ok (.getfield 77, 3) := by decide +kernel
theorem dX7_type_114 : decode cX7_type 114 = .ok (.iconst 1, 1) := by decide +kernel
theorem dX7_type_115 : decode cX7_type 115 = .ok (.iadd, 1) := by decide +kernel
theorem dX7_type_116 : decode cX7_type 116 = .ok (.putfield 77, 3) := by decide +kernel
theorem dX7_type_119 : decode cX7_type 119 = .ok (.iinc 4 (-1), 3) := by decide +kernel
theorem dX7_type_122 : decode cX7_type 122 = .ok (.goto (-39), 3) := by decide +kernel
theorem dX7_type_125 : decode cX7_type 125 = .ok (.iconst 1, 1) := by decide +kernel
theorem dX7_type_126 : decode cX7_type 126 = .ok (.ireturn, 1) := by decide +kernel
theorem dX7_see_0 : decode cX7_see 0 = .ok (.aload_n 0, 1) := by decide +kernel
theorem dX7_see_1 : decode cX7_see 1 = .ok (.getfield 86, 3) := by decide +kernel
theorem dX7_see_4 : decode cX7_see 4 = .ok (.aload_n 0, 1) := by decide +kernel
theorem dX7_see_5 : decode cX7_see 5 = .ok (.getfield 77, 3) := by decide +kernel
theorem dX7_see_8 : decode cX7_see 8 = .ok (.if_icmp .ge 15, 3) := by decide +kernel
theorem dX7_see_11 : decode cX7_see 11 = .ok (.aload_n 0, 1) := by decide +kernel
theorem dX7_see_12 : decode cX7_see 12 = .ok (.getfield 7, 3) := by decide +kernel
theorem dX7_see_15 : decode cX7_see 15 = .ok (.aload_n 0, 1) := by decide +kernel
theorem dX7_see_16 : decode cX7_see 16 = .ok (.getfield 86, 3) := by decide +kernel
theorem dX7_see_19 : decode cX7_see 19 = .ok (.iaload, 1) := by decide +kernel
theorem dX7_see_20 : decode cX7_see 20 = .ok (.goto 4, 3) := by decide +kernel
theorem dX7_see_23 : decode cX7_see 23 = .ok (.iconst (-1), 1) := by decide +kernel
theorem dX7_see_24 : decode cX7_see 24 = .ok (.ireturn, 1) := by decide +kernel
set_option maxRecDepth 20000 in
theorem ggX7_skip_X7_see : GoodIn wsX7_skip wsX7_see := goodIn_r _ [6, 1, 7, 8, 9, 10, 11, 12, 13, 14, 15, 16, 17, 18, 19, 20, 21, 22, 23, 24, 25, 26, 27, 28, 29, 30, 31, 32, 33, 34, 35, 36, 37, 38, 39, 40, 41, 42, 43, 44, 45, 46, 47, 48, 49, 50, 51, 52] (by decide +kernel) (by decide +kernel)
set_option maxRecDepth 20000 in
theorem gX7_skip_X7_see : GoodIn wsX7_skip (wsV RX7 89 RX7 yX7_see wsX7_see) := goodIn_app (goodIn_of _ (by decide +kernel)) ggX7_skip_X7_see
theorem dX7_skip_0 : decode cX7_skip 0 = .ok (.aload_n 0, 1) := by decide +kernel
theorem dX7_skip_1 : decode cX7_skip 1 = .ok (.invokevirtual 89, 3) := by decide +kernel
theorem dX7_skip_4 : decode cX7_skip 4 = .ok (.bipush 32, 2) := by decide +kernel
theorem dX7_skip_6 : decode cX7_skip 6 = .ok (.if_icmp .ne 16, 3) := by decide +kernel
theorem dX7_skip_9 : decode cX7_skip 9 = .ok (.aload_n 0, 1) := by decide +kernel
theorem dX7_skip_10 : decode cX7_skip 10 = .ok (.dup, 1) := by decide +kernel
theorem dX7_skip_11 : decode cX7_skip 11 = .ok (.getfield 86, 3) := by decide +kernel
theorem dX7_skip_14 : decode cX7_skip 14 = .ok (.iconst 1, 1) := by decide +kernel
theorem dX7_skip_15 : decode cX7_skip 15 = .ok (.iadd, 1) := by decide +kernel
theorem dX7_skip_16 : decode cX7_skip 16 = .ok (.putfield 86, 3) := by decide +kernel
theorem dX7_skip_19 : decode cX7_skip 19 = .ok (.goto (-19), 3) := by decide +kernel
theorem dX7_skip_22 : decode cX7_skip 22 = .ok (.return_, 1) := by decide +kernel
theorem dX7_digit_0 : decode cX7_digit 0 = .ok (.iload_n 0, 1) := by decide +kernel
theorem dX7_digit_1 : decode cX7_digit 1 = .ok (.bipush 48, 2) := by decide +kernel
theorem dX7_digit_3 : decode cX7_digit 3 = .ok (.if_icmp .lt 16, 3) := by decide +kernel
theorem dX7_digit_6 : decode cX7_digit 6 = .ok (.iload_n 0, 1) := by decide +kernel
theorem dX7_digit_7 : decode cX7_digit 7 = .ok (.bipush 57, 2) := by decide +kernel
theorem dX7_digit_9 : decode cX7_digit 9 = .ok (.if_icmp .gt 10, 3) := by decide +kernel
theorem dX7_digit_12 : decode cX7_digit 12 = .ok (.iload_n 0, 1) := by decide +kernel
theorem dX7_digit_13 : decode cX7_digit 13 = .ok (.bipush 48, 2) := by decide +kernel
theorem dX7_digit_15 : decode cX7_digit 15 = .ok (.isub, 1) := by decide +kernel
theorem dX7_digit_16 : decode cX7_digit 16 = .ok (.goto 27, 3) := by decide +kernel
theorem dX7_digit_19 : decode cX7_digit 19 = .ok (.iload_n 0, 1) := by decide +kernel
theorem dX7_digit_20 : decode cX7_digit 20 = .ok (.bipush 97, 2) := by decide +kernel
theorem dX7_digit_22 : decode cX7_digit 22 = .ok (.if_icmp .lt 19, 3) := by decide +kernel
theorem dX7_digit_25 : decode cX7_digit 25 = .ok (.iload_n 0, 1) := by decide +kernel
theorem dX7_digit_26 : decode cX7_digit 26 = .ok (.bipush 102, 2) := by decide +kernel
theorem dX7_digit_28 : decode cX7_digit 28 = .ok (.if_icmp .gt 13, 3) := by decide +kernel
theorem dX7_digit_31 : decode cX7_digit 31 = .ok (.iload_n 0, 1) := by decide +kernel
theorem dX7_digit_32 : decode cX7_digit 32 = .ok (.bipush 97, 2) := by decide +kernel
theorem dX7_digit_34 : decode cX7_digit 34 = .ok (.isub, 1) := by decide +kernel
theorem dX7_digit_35 : decode cX7_digit 35 = .ok (.bipush 10, 2) := by decide +kernel
theorem dX7_digit_37 : decode cX7_digit 37 = .ok (.iadd, 1) := by decide +kernel
theorem dX7_digit_38 : decode cX7_digit 38 = .ok (.goto 5, 3) := by decide +kernel
theorem dX7_digit_41 : decode cX7_digit 41 = .ok (.bipush 99, 2) := by decide +kernel
theorem dX7_digit_43 : decode cX7_digit 43 = .ok (.ireturn, 1) := by decide +kernel
theorem dX7_item_0 : decode cX7_item 0 = .ok (.aload_n 0, 1) := by decide +kernel
theorem dX7_item_1 : decode cX7_item 1 = .ok (.getfield 32, 3) := by decide +kernel
theorem dX7_item_4 : decode cX7_item 4 = .ok (.aload_n 0, 1) := by decide +kernel
theorem dX7_item_5 : decode cX7_item 5 = .ok (.getfield 93, 3) := by decide +kernel
theorem dX7_item_8 : decode cX7_item 8 = .ok (.iload_n 1, 1) := by decide +kernel
theorem dX7_item_9 : decode cX7_item 9 = .ok (.iastore, 1) := by decide +kernel
theorem dX7_item_10 : decode cX7_item 10 = .ok (.aload_n 0, 1) := by decide +kernel
theorem dX7_item_11 : decode cX7_item 11 = .ok (.getfield 35, 3) := by decide +kernel
theorem dX7_item_14 : decode cX7_item 14 = .ok (.aload_n 0, 1) := by decide +kernel
theorem dX7_item_15 : decode cX7_item 15 = .ok (.getfield 93, 3) := by decide +kernel
theorem dX7_item_18 : decode cX7_item 18 = .ok (.iload_n 2, 1) := by decide +kernel
theorem dX7_item_19 : decode cX7_item 19 = .ok (.iastore, 1) := by decide +kernel
theorem dX7_item_20 : decode cX7_item 20 = .ok (.aload_n 0, 1) := by decide +kernel
theorem dX7_item_21 : decode cX7_item 21 = .ok (.getfield 38, 3) := by decide +kernel
theorem dX7_item_24 : decode cX7_item 24 = .ok (.aload_n 0, 1) := by decide +kernel
theorem dX7_item_25 : decode cX7_item 25 = .ok (.getfield 93, 3) := by decide +kernel
theorem dX7_item_28 : decode cX7_item 28 = .ok (.aload_n 0, 1) := by decide +kernel
theorem dX7_item_29 : decode cX7_item 29 = .ok (.getfield 93, 3) := by decide +kernel
theorem dX7_item_32 : decode cX7_item 32 = .ok (.iconst 1, 1) := by decide +kernel
theorem dX7_item_33 : decode cX7_item 33 = .ok (.iadd, 1) := by decide +kernel
theorem dX7_item_34 : decode cX7_item 34 = .ok (.iastore, 1) := by decide +kernel
theorem dX7_item_35 : decode cX7_item 35 = .ok (.aload_n 0, 1) := by decide +kernel
theorem dX7_item_36 : decode cX7_item 36 = .ok (.dup, 1) := by decide +kernel
theorem dX7_item_37 : decode cX7_item 37 = .ok (.getfield 93, 3) := by decide +kernel
theorem dX7_item_40 : decode cX7_item 40 = .ok (.iconst 1, 1) := by decide +kernel
theorem dX7_item_41 : decode cX7_item 41 = .ok (.iadd, 1) := by decide +kernel
theorem dX7_item_42 : decode cX7_item 42 = .ok (.putfield 93, 3) := by decide +kernel
theorem dX7_item_45 : decode cX7_item 45 = .ok (.return_, 1) := by decide +kernel
theorem dX7_isDensity_0 : decode cX7_isDensity 0 = .ok (.iload_n 0, 1) := by decide +kernel
theorem dX7_isDensity_1 : decode cX7_isDensity 1 = .ok (.lookupswitch 101 #[(20, 99), (25, 99), (40, 99), (50, 99), (80, 99), (100, 99), (125, 99), (160, 99), (200, 99), (250, 99), (400, 99)], 99) := by decide +kernel
theorem dX7_isDensity_100 : decode cX7_isDensity 100 = .ok (.iconst 1, 1) := by decide +kernel
theorem dX7_isDensity_101 : decode cX7_isDensity 101 = .ok (.ireturn, 1) := by decide +kernel
theorem dX7_isDensity_102 : decode cX7_isDensity 102 = .ok (.iconst 0, 1) := by decide +kernel
theorem dX7_isDensity_103 : decode cX7_isDensity 103 = .ok (.ireturn, 1) := by decide +kernel
set_option maxRecDepth 20000 in
theorem ggX7_readsWord_X7_see : GoodIn wsX7_readsWord wsX7_see := goodIn_r _ [7, 1, 8, 9, 24, 25, 26, 27, 28, 29, 30, 31, 32, 33, 34, 35, 36, 37, 38, 39, 40, 41, 42, 43, 44, 45, 46, 47, 48, 49, 50, 51, 52, 53, 54, 55, 56, 57, 58, 59, 60, 61, 62, 63, 64, 65, 66, 67] (by decide +kernel) (by decide +kernel)
set_option maxRecDepth 20000 in
theorem gX7_readsWord_X7_see : GoodIn wsX7_readsWord (wsV RX7 89 RX7 yX7_see wsX7_see) := goodIn_app (goodIn_of _ (by decide +kernel)) ggX7_readsWord_X7_see
set_option maxRecDepth 20000 in
theorem ggX7_readsWord_X7_digit : GoodIn wsX7_readsWord wsX7_digit := goodIn_r _ [12] (by decide +kernel) (by decide +kernel)
set_option maxRecDepth 20000 in
theorem gX7_readsWord_X7_digit : GoodIn wsX7_readsWord (va_wsS RX7 96 yX7_digit wsX7_digit) := goodIn_app (goodIn_of _ (by decide +kernel)) ggX7_readsWord_X7_digit
set_option maxRecDepth 20000 in
theorem ggX7_readsWord_X7_isDensity : GoodIn wsX7_readsWord wsX7_isDensity := goodIn_r _ [15] (by decide +kernel) (by decide +kernel)
set_option maxRecDepth 20000 in
theorem gX7_readsWord_X7_isDensity : GoodIn wsX7_readsWord (va_wsS RX7 100 yX7_isDensity wsX7_isDensity) := goodIn_app (goodIn_of _ (by decide +kernel)) ggX7_readsWord_X7_isDensity
set_option maxRecDepth 20000 in
theorem ggX7_readsWord_X7_item : GoodIn wsX7_readsWord wsX7_item := goodIn_r _ [19, 20, 21, 22, 23, 24, 25, 26, 27, 28, 29, 30, 31, 32, 33, 34, 35, 36, 37, 38, 39, 40, 41, 42, 43, 44, 45, 46, 47, 48, 49, 50, 51, 52, 53, 54, 55, 56, 57, 58, 59, 60, 61, 62, 63, 64, 65, 66, 67] (by decide +kernel) (by decide +kernel)
set_option maxRecDepth 20000 in
theorem gX7_readsWord_X7_item : GoodIn wsX7_readsWord (wsV RX7 107 RX7 yX7_item wsX7_item) := goodIn_app (goodIn_of _ (by decide +kernel)) ggX7_readsWord_X7_item
theorem dX7_readsWord_0 : decode cX7_readsWord 0 = .ok (.aload_n 0, 1) := by decide +kernel
theorem dX7_readsWord_1 : decode cX7_readsWord 1 = .ok (.getfield 86, 3) := by decide +kernel
theorem dX7_readsWord_4 : decode cX7_readsWord 4 = .ok (.istore_n 2, 1) := by decide +kernel
theorem dX7_readsWord_5 : decode cX7_readsWord 5 = .ok (.iconst 0, 1) := by decide +kernel
theorem dX7_readsWord_6 : decode cX7_readsWord 6 = .ok (.istore_n 3, 1) := by decide +kernel
theorem dX7_readsWord_7 : decode cX7_readsWord 7 = .ok (.iload_n 1, 1) := by decide +kernel
theorem dX7_readsWord_8 : decode cX7_readsWord 8 = .ok (.bipush 104, 2) := by decide +kernel
theorem dX7_readsWord_10 : decode cX7_readsWord 10 = .ok (.if_icmp .ne 8, 3) := by decide +kernel
theorem dX7_readsWord_13 : decode cX7_readsWord 13 = .ok (.bipush 6, 2) := by decide +kernel
theorem dX7_readsWord_15 : decode cX7_readsWord 15 = .ok (.goto 16, 3) := by decide +kernel
theorem dX7_readsWord_18 : decode cX7_readsWord 18 = .ok (.iload_n 1, 1) := by decide +kernel
theorem dX7_readsWord_19 : decode cX7_readsWord 19 = .ok (.bipush 99, 2) := by decide +kernel
theorem dX7_readsWord_21 : decode cX7_readsWord 21 = .ok (.if_icmp .ne 7, 3) := by decide +kernel
theorem dX7_readsWord_24 : decode cX7_readsWord 24 = .ok (.iconst 1, 1) := by decide +kernel
theorem dX7_readsWord_25 : decode cX7_readsWord 25 = .ok (.goto 6, 3) := by decide +kernel
theorem dX7_readsWord_28 : decode cX7_readsWord 28 = .ok (.sipush 160, 3) := by decide +kernel
theorem dX7_readsWord_31 : decode cX7_readsWord 31 = .ok (.istore 4, 2) := by decide +kernel
theorem dX7_readsWord_33 : decode cX7_readsWord 33 = .ok (.iload_n 1, 1) := by decide +kernel
theorem dX7_readsWord_34 : decode cX7_readsWord 34 = .ok (.bipush 104, 2) := by decide +kernel
theorem dX7_readsWord_36 : decode cX7_readsWord 36 = .ok (.if_icmp .ne 8, 3) := by decide +kernel
theorem dX7_readsWord_39 : decode cX7_readsWord 39 = .ok (.bipush 16, 2) := by decide +kernel
theorem dX7_readsWord_41 : decode cX7_readsWord 41 = .ok (.goto 5, 3) := by decide +kernel
theorem dX7_readsWord_44 : decode cX7_readsWord 44 = .ok (.bipush 10, 2) := by decide +kernel
theorem dX7_readsWord_46 : decode cX7_readsWord 46 = .ok (.istore 5, 2) := by decide +kernel
theorem dX7_readsWord_48 : decode cX7_readsWord 48 = .ok (.aload_n 0, 1) := by decide +kernel
theorem dX7_readsWord_49 : decode cX7_readsWord 49 = .ok (.getfield 86, 3) := by decide +kernel
theorem dX7_readsWord_52 : decode cX7_readsWord 52 = .ok (.iload_n 2, 1) := by decide +kernel
theorem dX7_readsWord_53 : decode cX7_readsWord 53 = .ok (.isub, 1) := by decide +kernel
theorem dX7_readsWord_54 : decode cX7_readsWord 54 = .ok (.iload 4, 2) := by decide +kernel
theorem dX7_readsWord_56 : decode cX7_readsWord 56 = .ok (.if_icmp .ge 62, 3) := by decide +kernel
theorem dX7_readsWord_59 : decode cX7_readsWord 59 = .ok (.aload_n 0, 1) := by decide +kernel
theorem dX7_readsWord_60 : decode cX7_readsWord 60 = .ok (.invokevirtual 89, 3) := by decide +kernel
theorem dX7_readsWord_63 : decode cX7_readsWord 63 = .ok (.invokestatic 96, 3) := by decide +kernel
theorem dX7_readsWord_66 : decode cX7_readsWord 66 = .ok (.iload 5, 2) := by decide +kernel
theorem dX7_readsWord_68 : decode cX7_readsWord 68 = .ok (.if_icmp .ge 50, 3) := by decide +kernel
theorem dX7_readsWord_71 : decode cX7_readsWord 71 = .ok (.iload 5, 2) := by decide +kernel
theorem dX7_readsWord_73 : decode cX7_readsWord 73 = .ok (.iload_n 3, 1) := by decide +kernel
theorem dX7_readsWord_74 : decode cX7_readsWord 74 = .ok (.imul, 1) := by decide +kernel
theorem dX7_readsWord_75 : decode cX7_readsWord 75 = .ok (.aload_n 0, 1) := by decide +kernel
theorem dX7_readsWord_76 : decode cX7_readsWord 76 = .ok (.invokevirtual 89, 3) := by decide +kernel
theorem dX7_readsWord_79 : decode cX7_readsWord 79 = .ok (.invokestatic 96, 3) := by decide +kernel
theorem dX7_readsWord_82 : decode cX7_readsWord 82 = .ok (.iadd, 1) := by decide +kernel
theorem dX7_readsWord_83 : decode cX7_readsWord 83 = .ok (.istore_n 3, 1) := by decide +kernel
theorem dX7_readsWord_84 : decode cX7_readsWord 84 = .ok (.iload_n 1, 1) := by decide +kernel
theorem dX7_readsWord_85 : decode cX7_readsWord 85 = .ok (.bipush 100, 2) := by decide +kernel
theorem dX7_readsWord_87 : decode cX7_readsWord 87 = .ok (.if_icmp .ne 16, 3) := by decide +kernel
theorem dX7_readsWord_90 : decode cX7_readsWord 90 = .ok (.iload_n 3, 1) := by decide +kernel
theorem dX7_readsWord_91 : decode cX7_readsWord 91 = .ok (.sipush 1000, 3) := by decide +kernel
theorem dX7_readsWord_94 : decode cX7_readsWord 94 = .ok (.if_icmp .le 9, 3) := by decide +kernel
theorem dX7_readsWord_97 : decode cX7_readsWord 97 = .ok (.sipush 1000, 3) := by decide +kernel
theorem dX7_readsWord_100 : decode cX7_readsWord 100 = .ok (.goto 4, 3) := by decide +kernel
theorem dX7_readsWord_103 : decode cX7_readsWord 103 = .ok (.iload_n 3, 1) := by decide +kernel
theorem dX7_readsWord_104 : decode cX7_readsWord 104 = .ok (.istore_n 3, 1) := by decide +kernel
theorem dX7_readsWord_105 : decode cX7_readsWord 105 = .ok (.aload_n 0, 1) := by decide +kernel
theorem dX7_readsWord_106 : decode cX7_readsWord 106 = .ok (.dup, 1) := by decide +kernel
theorem dX7_readsWord_107 : decode cX7_readsWord 107 = .ok (.getfield 86, 3) := by decide +kernel
theorem dX7_readsWord_110 : decode cX7_readsWord 110 = .ok (.iconst 1, 1) := by decide +kernel
theorem dX7_readsWord_111 : decode cX7_readsWord 111 = .ok (.iadd, 1) := by decide +kernel
theorem dX7_readsWord_112 : decode cX7_readsWord 112 = .ok (.putfield 86, 3) := by decide +kernel
theorem dX7_readsWord_115 : decode cX7_readsWord 115 = .ok (.goto (-67), 3) := by decide +kernel
theorem dX7_readsWord_118 : decode cX7_readsWord 118 = .ok (.aload_n 0, 1) := by decide +kernel
theorem dX7_readsWord_119 : decode cX7_readsWord 119 = .ok (.getfield 86, 3) := by decide +kernel
theorem dX7_readsWord_122 : decode cX7_readsWord 122 = .ok (.iload_n 2, 1) := by decide +kernel
theorem dX7_readsWord_123 : decode cX7_readsWord 123 = .ok (.if_icmp .ne 5, 3) := by decide +kernel
theorem dX7_readsWord_126 : decode cX7_readsWord 126 = .ok (.iconst 0, 1) := by decide +kernel
theorem dX7_readsWord_127 : decode cX7_readsWord 127 = .ok (.ireturn, 1) := by decide +kernel
theorem dX7_readsWord_128 : decode cX7_readsWord 128 = .ok (.iload_n 1, 1) := by decide +kernel
theorem dX7_readsWord_129 : decode cX7_readsWord 129 = .ok (.bipush 99, 2) := by decide +kernel
theorem dX7_readsWord_131 : decode cX7_readsWord 131 = .ok (.if_icmp .ne 9, 3) := by decide +kernel
theorem dX7_readsWord_134 : decode cX7_readsWord 134 = .ok (.iload_n 3, 1) := by decide +kernel
theorem dX7_readsWord_135 : decode cX7_readsWord 135 = .ok (.bipush 7, 2) := by decide +kernel
theorem dX7_readsWord_137 : decode cX7_readsWord 137 = .ok (.if_icmp .gt 16, 3) := by decide +kernel
theorem dX7_readsWord_140 : decode cX7_readsWord 140 = .ok (.iload_n 1, 1) := by decide +kernel
theorem dX7_readsWord_141 : decode cX7_readsWord 141 = .ok (.bipush 100, 2) := by decide +kernel
theorem dX7_readsWord_143 : decode cX7_readsWord 143 = .ok (.if_icmp .ne 17, 3) := by decide +kernel
theorem dX7_readsWord_146 : decode cX7_readsWord 146 = .ok (.iload_n 3, 1) := by decide +kernel
theorem dX7_readsWord_147 : decode cX7_readsWord 147 = .ok (.invokestatic 100, 3) := by decide +kernel
theorem dX7_readsWord_150 : decode cX7_readsWord 150 = .ok (.ifCond .ne 10, 3) := by decide +kernel
theorem dX7_readsWord_153 : decode cX7_readsWord 153 = .ok (.aload_n 0, 1) := by decide +kernel
theorem dX7_readsWord_154 : decode cX7_readsWord 154 = .ok (.iload_n 2, 1) := by decide +kernel
theorem dX7_readsWord_155 : decode cX7_readsWord 155 = .ok (.putfield 86, 3) := by decide +kernel
theorem dX7_readsWord_158 : decode cX7_readsWord 158 = .ok (.iconst 0, 1) := by decide +kernel
theorem dX7_readsWord_159 : decode cX7_readsWord 159 = .ok (.ireturn, 1) := by decide +kernel
theorem dX7_readsWord_160 : decode cX7_readsWord 160 = .ok (.aload_n 0, 1) := by decide +kernel
theorem dX7_readsWord_161 : decode cX7_readsWord 161 = .ok (.dup, 1) := by decide +kernel
theorem dX7_readsWord_162 : decode cX7_readsWord 162 = .ok (.getfield 104, 3) := by decide +kernel
theorem dX7_readsWord_165 : decode cX7_readsWord 165 = .ok (.iload_n 1, 1) := by decide +kernel
theorem dX7_readsWord_166 : decode cX7_readsWord 166 = .ok (.bipush 104, 2) := by decide +kernel
theorem dX7_readsWord_168 : decode cX7_readsWord 168 = .ok (.if_icmp .ne 7, 3) := by decide +kernel
theorem dX7_readsWord_171 : decode cX7_readsWord 171 = .ok (.iconst 1, 1) := by decide +kernel
theorem dX7_readsWord_172 : decode cX7_readsWord 172 = .ok (.goto 4, 3) := by decide +kernel
theorem dX7_readsWord_175 : decode cX7_readsWord 175 = .ok (.iconst 0, 1) := by decide +kernel
theorem dX7_readsWord_176 : decode cX7_readsWord 176 = .ok (.iadd, 1) := by decide +kernel
theorem dX7_readsWord_177 : decode cX7_readsWord 177 = .ok (.putfield 104, 3) := by decide +kernel
theorem dX7_readsWord_180 : decode cX7_readsWord 180 = .ok (.aload_n 0, 1) := by decide +kernel
theorem dX7_readsWord_181 : decode cX7_readsWord 181 = .ok (.iload_n 1, 1) := by decide +kernel
theorem dX7_readsWord_182 : decode cX7_readsWord 182 = .ok (.bipush 104, 2) := by decide +kernel
theorem dX7_readsWord_184 : decode cX7_readsWord 184 = .ok (.if_icmp .ne 7, 3) := by decide +kernel
theorem dX7_readsWord_187 : decode cX7_readsWord 187 = .ok (.iconst 0, 1) := by decide +kernel
theorem dX7_readsWord_188 : decode cX7_readsWord 188 = .ok (.goto 14, 3) := by decide +kernel
theorem dX7_readsWord_191 : decode cX7_readsWord 191 = .ok (.iload_n 1, 1) := by decide +kernel
theorem dX7_readsWord_192 : decode cX7_readsWord 192 = .ok (.bipush 99, 2) := by decide +kernel
theorem dX7_readsWord_194 : decode cX7_readsWord 194 = .ok (.if_icmp .ne 7, 3) := by decide +kernel
theorem dX7_readsWord_197 : decode cX7_readsWord 197 = .ok (.iconst 1, 1) := by decide +kernel
theorem dX7_readsWord_198 : decode cX7_readsWord 198 = .ok (.goto 4, 3) := by decide +kernel
theorem dX7_readsWord_201 : decode cX7_readsWord 201 = .ok (.iconst 2, 1) := by decide +kernel
theorem dX7_readsWord_202 : decode cX7_readsWord 202 = .ok (.iload_n 3, 1) := by decide +kernel
theorem dX7_readsWord_203 : decode cX7_readsWord 203 = .ok (.invokevirtual 107, 3) := by decide +kernel
theorem dX7_readsWord_206 : decode cX7_readsWord 206 = .ok (.iconst 1, 1) := by decide +kernel
theorem dX7_readsWord_207 : decode cX7_readsWord 207 = .ok (.ireturn, 1) := by decide +kernel
set_option maxRecDepth 20000 in
theorem ggX7_readsOpening_X7_see : GoodIn wsX7_readsOpening wsX7_see := goodIn_r _ [12, 1, 13, 14, 29, 30, 31, 32, 33, 34, 35, 36, 37, 38, 39, 40, 41, 42, 43, 44, 45, 46, 47, 48, 49, 50, 51, 52, 53, 54, 55, 56, 57, 58, 59, 60, 61, 62, 63, 64, 65, 66, 67, 68, 69, 70, 71, 72] (by decide +kernel) (by decide +kernel)
set_option maxRecDepth 20000 in
theorem gX7_readsOpening_X7_see : GoodIn wsX7_readsOpening (wsV RX7 89 RX7 yX7_see wsX7_see) := goodIn_app (goodIn_of _ (by decide +kernel)) ggX7_readsOpening_X7_see
set_option maxRecDepth 20000 in
theorem ggX7_readsOpening_X7_digit : GoodIn wsX7_readsOpening wsX7_digit := goodIn_r _ [17] (by decide +kernel) (by decide +kernel)
set_option maxRecDepth 20000 in
theorem gX7_readsOpening_X7_digit : GoodIn wsX7_readsOpening (va_wsS RX7 96 yX7_digit wsX7_digit) := goodIn_app (goodIn_of _ (by decide +kernel)) ggX7_readsOpening_X7_digit
set_option maxRecDepth 20000 in
theorem ggX7_readsOpening_X7_skip : GoodIn wsX7_readsOpening wsX7_skip := goodIn_r _ [21, 1, 8, 9, 10, 11, 12, 13, 14, 29, 30, 31, 32, 33, 34, 35, 36, 37, 38, 39, 40, 41, 42, 43, 44, 45, 46, 47, 48, 49, 50, 51, 52, 53, 54, 55, 56, 57, 58, 59, 60, 61, 62, 63, 64, 65, 66, 67, 68, 69, 70, 71, 72] (by decide +kernel) (by decide +kernel)
set_option maxRecDepth 20000 in
theorem gX7_readsOpening_X7_skip : GoodIn wsX7_readsOpening (wsV RX7 111 RX7 yX7_skip wsX7_skip) := goodIn_app (goodIn_of _ (by decide +kernel)) ggX7_readsOpening_X7_skip
set_option maxRecDepth 20000 in
theorem ggX7_readsOpening_X7_item : GoodIn wsX7_readsOpening wsX7_item := goodIn_r _ [25, 26, 4, 27, 28, 29, 30, 31, 32, 33, 34, 35, 36, 37, 38, 39, 40, 41, 42, 43, 44, 45, 46, 47, 48, 49, 50, 51, 52, 53, 54, 55, 56, 57, 58, 59, 60, 61, 62, 63, 64, 65, 66, 67, 68, 69, 70, 71, 72] (by decide +kernel) (by decide +kernel)
set_option maxRecDepth 20000 in
theorem gX7_readsOpening_X7_item : GoodIn wsX7_readsOpening (wsV RX7 107 RX7 yX7_item wsX7_item) := goodIn_app (goodIn_of _ (by decide +kernel)) ggX7_readsOpening_X7_item
theorem dX7_readsOpening_0 : decode cX7_readsOpening 0 = .ok (.iconst 2, 1) := by decide +kernel
theorem dX7_readsOpening_1 : decode cX7_readsOpening 1 = .ok (.istore_n 2, 1) := by decide +kernel
theorem dX7_readsOpening_2 : decode cX7_readsOpening 2 = .ok (.iload_n 1, 1) := by decide +kernel
theorem dX7_readsOpening_3 : decode cX7_readsOpening 3 = .ok (.bipush 114, 2) := by decide +kernel
theorem dX7_readsOpening_5 : decode cX7_readsOpening 5 = .ok (.if_icmp .ne 100, 3) := by decide +kernel
theorem dX7_readsOpening_8 : decode cX7_readsOpening 8 = .ok (.aload_n 0, 1) := by decide +kernel
theorem dX7_readsOpening_9 : decode cX7_readsOpening 9 = .ok (.getfield 86, 3) := by decide +kernel
theorem dX7_readsOpening_12 : decode cX7_readsOpening 12 = .ok (.istore_n 3, 1) := by decide +kernel
theorem dX7_readsOpening_13 : decode cX7_readsOpening 13 = .ok (.iconst 0, 1) := by decide +kernel
theorem dX7_readsOpening_14 : decode cX7_readsOpening 14 = .ok (.istore_n 2, 1) := by decide +kernel
theorem dX7_readsOpening_15 : decode cX7_readsOpening 15 = .ok (.aload_n 0, 1) := by decide +kernel
theorem dX7_readsOpening_16 : decode cX7_readsOpening 16 = .ok (.getfield 86, 3) := by decide +kernel
theorem dX7_readsOpening_19 : decode cX7_readsOpening 19 = .ok (.iload_n 3, 1) := by decide +kernel
theorem dX7_readsOpening_20 : decode cX7_readsOpening 20 = .ok (.isub, 1) := by decide +kernel
theorem dX7_readsOpening_21 : decode cX7_readsOpening 21 = .ok (.iconst 4, 1) := by decide +kernel
theorem dX7_readsOpening_22 : decode cX7_readsOpening 22 = .ok (.if_icmp .ge 41, 3) := by decide +kernel
theorem dX7_readsOpening_25 : decode cX7_readsOpening 25 = .ok (.aload_n 0, 1) := by decide +kernel
theorem dX7_readsOpening_26 : decode cX7_readsOpening 26 = .ok (.invokevirtual 89, 3) := by decide +kernel
theorem dX7_readsOpening_29 : decode cX7_readsOpening 29 = .ok (.invokestatic 96, 3) := by decide +kernel
theorem dX7_readsOpening_32 : decode cX7_readsOpening 32 = .ok (.bipush 10, 2) := by decide +kernel
theorem dX7_readsOpening_34 : decode cX7_readsOpening 34 = .ok (.if_icmp .ge 29, 3) := by decide +kernel
theorem dX7_readsOpening_37 : decode cX7_readsOpening 37 = .ok (.bipush 10, 2) := by decide +kernel
theorem dX7_readsOpening_39 : decode cX7_readsOpening 39 = .ok (.iload_n 2, 1) := by decide +kernel
theorem dX7_readsOpening_40 : decode cX7_readsOpening 40 = .ok (.imul, 1) := by decide +kernel
theorem dX7_readsOpening_41 : decode cX7_readsOpening 41 = .ok (.aload_n 0, 1) := by decide +kernel
theorem dX7_readsOpening_42 : decode cX7_readsOpening 42 = .ok (.invokevirtual 89, 3) := by decide +kernel
theorem dX7_readsOpening_45 : decode cX7_readsOpening 45 = .ok (.invokestatic 96, 3) := by decide +kernel
theorem dX7_readsOpening_48 : decode cX7_readsOpening 48 = .ok (.iadd, 1) := by decide +kernel
theorem dX7_readsOpening_49 : decode cX7_readsOpening 49 = .ok (.istore_n 2, 1) := by decide +kernel
theorem dX7_readsOpening_50 : decode cX7_readsOpening 50 = .ok (.aload_n 0, 1) := by decide +kernel
theorem dX7_readsOpening_51 : decode cX7_readsOpening 51 = .ok (.dup, 1) := by decide +kernel
theorem dX7_readsOpening_52 : decode cX7_readsOpening 52 = .ok (.getfield 86, 3) := by decide +kernel
theorem dX7_readsOpening_55 : decode cX7_readsOpening 55 = .ok (.iconst 1, 1) := by decide +kernel
theorem dX7_readsOpening_56 : decode cX7_readsOpening 56 = .ok (.iadd, 1) := by decide +kernel
theorem dX7_readsOpening_57 : decode cX7_readsOpening 57 = .ok (.putfield 86, 3) := by decide +kernel
theorem dX7_readsOpening_60 : decode cX7_readsOpening 60 = .ok (.goto (-45), 3) := by decide +kernel
theorem dX7_readsOpening_63 : decode cX7_readsOpening 63 = .ok (.iload_n 2, 1) := by decide +kernel
theorem dX7_readsOpening_64 : decode cX7_readsOpening 64 = .ok (.ifCond .eq 15, 3) := by decide +kernel
theorem dX7_readsOpening_67 : decode cX7_readsOpening 67 = .ok (.aload_n 0, 1) := by decide +kernel
theorem dX7_readsOpening_68 : decode cX7_readsOpening 68 = .ok (.invokevirtual 89, 3) := by decide +kernel
theorem dX7_readsOpening_71 : decode cX7_readsOpening 71 = .ok (.invokestatic 96, 3) := by decide +kernel
theorem dX7_readsOpening_74 : decode cX7_readsOpening 74 = .ok (.bipush 10, 2) := by decide +kernel
theorem dX7_readsOpening_76 : decode cX7_readsOpening 76 = .ok (.if_icmp .ge 29, 3) := by decide +kernel
theorem dX7_readsOpening_79 : decode cX7_readsOpening 79 = .ok (.aload_n 0, 1) := by decide +kernel
theorem dX7_readsOpening_80 : decode cX7_readsOpening 80 = .ok (.iload_n 2, 1) := by decide +kernel
theorem dX7_readsOpening_81 : decode cX7_readsOpening 81 = .ok (.ifCond .ne 15, 3) := by decide +kernel
theorem dX7_readsOpening_84 : decode cX7_readsOpening 84 = .ok (.aload_n 0, 1) := by decide +kernel
theorem dX7_readsOpening_85 : decode cX7_readsOpening 85 = .ok (.getfield 86, 3) := by decide +kernel
theorem dX7_readsOpening_88 : decode cX7_readsOpening 88 = .ok (.iload_n 3, 1) := by decide +kernel
theorem dX7_readsOpening_89 : decode cX7_readsOpening 89 = .ok (.if_icmp .le 7, 3) := by decide +kernel
theorem dX7_readsOpening_92 : decode cX7_readsOpening 92 = .ok (.iload_n 3, 1) := by decide +kernel
theorem dX7_readsOpening_93 : decode cX7_readsOpening 93 = .ok (.goto 7, 3) := by decide +kernel
theorem dX7_readsOpening_96 : decode cX7_readsOpening 96 = .ok (.aload_n 0, 1) := by decide +kernel
theorem dX7_readsOpening_97 : decode cX7_readsOpening 97 = .ok (.getfield 86, 3) := by decide +kernel
theorem dX7_readsOpening_100 : decode cX7_readsOpening 100 = .ok (.putfield 86, 3) := by decide +kernel
theorem dX7_readsOpening_103 : decode cX7_readsOpening 103 = .ok (.iconst 0, 1) := by decide +kernel
theorem dX7_readsOpening_104 : decode cX7_readsOpening 104 = .ok (.ireturn, 1) := by decide +kernel
theorem dX7_readsOpening_105 : decode cX7_readsOpening 105 = .ok (.aload_n 0, 1) := by decide +kernel
theorem dX7_readsOpening_106 : decode cX7_readsOpening 106 = .ok (.invokevirtual 111, 3) := by decide +kernel
theorem dX7_readsOpening_109 : decode cX7_readsOpening 109 = .ok (.aload_n 0, 1) := by decide +kernel
theorem dX7_readsOpening_110 : decode cX7_readsOpening 110 = .ok (.invokevirtual 89, 3) := by decide +kernel
theorem dX7_readsOpening_113 : decode cX7_readsOpening 113 = .ok (.bipush 40, 2) := by decide +kernel
theorem dX7_readsOpening_115 : decode cX7_readsOpening 115 = .ok (.if_icmp .ne 12, 3) := by decide +kernel
theorem dX7_readsOpening_118 : decode cX7_readsOpening 118 = .ok (.aload_n 0, 1) := by decide +kernel
theorem dX7_readsOpening_119 : decode cX7_readsOpening 119 = .ok (.getfield 114, 3) := by decide +kernel
theorem dX7_readsOpening_122 : decode cX7_readsOpening 122 = .ok (.bipush 6, 2) := by decide +kernel
theorem dX7_readsOpening_124 : decode cX7_readsOpening 124 = .ok (.if_icmp .ne 5, 3) := by decide +kernel
theorem dX7_readsOpening_127 : decode cX7_readsOpening 127 = .ok (.iconst 0, 1) := by decide +kernel
theorem dX7_readsOpening_128 : decode cX7_readsOpening 128 = .ok (.ireturn, 1) := by decide +kernel
theorem dX7_readsOpening_129 : decode cX7_readsOpening 129 = .ok (.aload_n 0, 1) := by decide +kernel
theorem dX7_readsOpening_130 : decode cX7_readsOpening 130 = .ok (.dup, 1) := by decide +kernel
theorem dX7_readsOpening_131 : decode cX7_readsOpening 131 = .ok (.getfield 86, 3) := by decide +kernel
theorem dX7_readsOpening_134 : decode cX7_readsOpening 134 = .ok (.iconst 1, 1) := by decide +kernel
theorem dX7_readsOpening_135 : decode cX7_readsOpening 135 = .ok (.iadd, 1) := by decide +kernel
theorem dX7_readsOpening_136 : decode cX7_readsOpening 136 = .ok (.putfield 86, 3) := by decide +kernel
theorem dX7_readsOpening_139 : decode cX7_readsOpening 139 = .ok (.aload_n 0, 1) := by decide +kernel
theorem dX7_readsOpening_140 : decode cX7_readsOpening 140 = .ok (.getfield 41, 3) := by decide +kernel
theorem dX7_readsOpening_143 : decode cX7_readsOpening 143 = .ok (.aload_n 0, 1) := by decide +kernel
theorem dX7_readsOpening_144 : decode cX7_readsOpening 144 = .ok (.getfield 114, 3) := by decide +kernel
theorem dX7_readsOpening_147 : decode cX7_readsOpening 147 = .ok (.aload_n 0, 1) := by decide +kernel
theorem dX7_readsOpening_148 : decode cX7_readsOpening 148 = .ok (.getfield 93, 3) := by decide +kernel
theorem dX7_readsOpening_151 : decode cX7_readsOpening 151 = .ok (.iastore, 1) := by decide +kernel
theorem dX7_readsOpening_152 : decode cX7_readsOpening 152 = .ok (.aload_n 0, 1) := by decide +kernel
theorem dX7_readsOpening_153 : decode cX7_readsOpening 153 = .ok (.getfield 44, 3) := by decide +kernel
theorem dX7_readsOpening_156 : decode cX7_readsOpening 156 = .ok (.aload_n 0, 1) := by decide +kernel
theorem dX7_readsOpening_157 : decode cX7_readsOpening 157 = .ok (.getfield 114, 3) := by decide +kernel
theorem dX7_readsOpening_160 : decode cX7_readsOpening 160 = .ok (.aload_n 0, 1) := by decide +kernel
theorem dX7_readsOpening_161 : decode cX7_readsOpening 161 = .ok (.getfield 104, 3) := by decide +kernel
theorem dX7_readsOpening_164 : decode cX7_readsOpening 164 = .ok (.iastore, 1) := by decide +kernel
theorem dX7_readsOpening_165 : decode cX7_readsOpening 165 = .ok (.aload_n 0, 1) := by decide +kernel
theorem dX7_readsOpening_166 : decode cX7_readsOpening 166 = .ok (.dup, 1) := by decide +kernel
theorem dX7_readsOpening_167 : decode cX7_readsOpening 167 = .ok (.getfield 114, 3) := by decide +kernel
theorem dX7_readsOpening_170 : decode cX7_readsOpening 170 = .ok (.iconst 1, 1) := by decide +kernel
theorem dX7_readsOpening_171 : decode cX7_readsOpening 171 = .ok (.iadd, 1) := by decide +kernel
theorem dX7_readsOpening_172 : decode cX7_readsOpening 172 = .ok (.putfield 114, 3) := by decide +kernel
theorem dX7_readsOpening_175 : decode cX7_readsOpening 175 = .ok (.aload_n 0, 1) := by decide +kernel
theorem dX7_readsOpening_176 : decode cX7_readsOpening 176 = .ok (.iload_n 1, 1) := by decide +kernel
theorem dX7_readsOpening_177 : decode cX7_readsOpening 177 = .ok (.bipush 114, 2) := by decide +kernel
theorem dX7_readsOpening_179 : decode cX7_readsOpening 179 = .ok (.if_icmp .ne 7, 3) := by decide +kernel
theorem dX7_readsOpening_182 : decode cX7_readsOpening 182 = .ok (.iconst 3, 1) := by decide +kernel
theorem dX7_readsOpening_183 : decode cX7_readsOpening 183 = .ok (.goto 4, 3) := by decide +kernel
theorem dX7_readsOpening_186 : decode cX7_readsOpening 186 = .ok (.iconst 4, 1) := by decide +kernel
theorem dX7_readsOpening_187 : decode cX7_readsOpening 187 = .ok (.iload_n 2, 1) := by decide +kernel
theorem dX7_readsOpening_188 : decode cX7_readsOpening 188 = .ok (.invokevirtual 107, 3) := by decide +kernel
theorem dX7_readsOpening_191 : decode cX7_readsOpening 191 = .ok (.aload_n 0, 1) := by decide +kernel
theorem dX7_readsOpening_192 : decode cX7_readsOpening 192 = .ok (.iconst 1, 1) := by decide +kernel
theorem dX7_readsOpening_193 : decode cX7_readsOpening 193 = .ok (.putfield 117, 3) := by decide +kernel
theorem dX7_readsOpening_196 : decode cX7_readsOpening 196 = .ok (.iconst 1, 1) := by decide +kernel
theorem dX7_readsOpening_197 : decode cX7_readsOpening 197 = .ok (.ireturn, 1) := by decide +kernel
set_option maxRecDepth 20000 in
theorem ggX7_reads_X7_skip : GoodIn wsX7_reads wsX7_skip := goodIn_r _ [14, 1, 15, 16, 17, 13, 18, 6, 19, 40, 41, 42, 43, 44, 45, 46, 47, 48, 49, 50, 51, 52, 53, 54, 55, 56, 57, 58, 59, 60, 61, 62, 63, 64, 65, 66, 67, 68, 69, 70, 71, 72, 73, 74, 75, 76, 77, 78, 79, 80, 81, 82, 83] (by decide +kernel) (by decide +kernel)
set_option maxRecDepth 20000 in
theorem gX7_reads_X7_skip : GoodIn wsX7_reads (wsV RX7 111 RX7 yX7_skip wsX7_skip) := goodIn_app (goodIn_of _ (by decide +kernel)) ggX7_reads_X7_skip
set_option maxRecDepth 20000 in
theorem ggX7_reads_X7_see : GoodIn wsX7_reads wsX7_see := goodIn_r _ [18, 1, 6, 19, 40, 41, 42, 43, 44, 45, 46, 47, 48, 49, 50, 51, 52, 53, 54, 55, 56, 57, 58, 59, 60, 61, 62, 63, 64, 65, 66, 67, 68, 69, 70, 71, 72, 73, 74, 75, 76, 77, 78, 79, 80, 81, 82, 83] (by decide +kernel) (by decide +kernel)
set_option maxRecDepth 20000 in
theorem gX7_reads_X7_see : GoodIn wsX7_reads (wsV RX7 89 RX7 yX7_see wsX7_see) := goodIn_app (goodIn_of _ (by decide +kernel)) ggX7_reads_X7_see
set_option maxRecDepth 20000 in
theorem ggX7_reads_X7_readsWord : GoodIn wsX7_reads wsX7_readsWord := goodIn_r _ [23, 1, 4, 15, 16, 17, 13, 18, 6, 19, 24, 25, 26, 27, 28, 29, 30, 31, 32, 33, 34, 2, 35, 8, 40, 41, 42, 43, 44, 45, 46, 47, 48, 49, 50, 51, 52, 53, 54, 55, 56, 57, 58, 59, 60, 61, 62, 63, 64, 65, 66, 67, 68, 69, 70, 71, 72, 73, 74, 75, 76, 77, 78, 79, 80, 81, 82, 83] (by decide +kernel) (by decide +kernel)
set_option maxRecDepth 20000 in
theorem gX7_reads_X7_readsWord : GoodIn wsX7_reads (wsV RX7 120 RX7 yX7_readsWord wsX7_readsWord) := goodIn_app (goodIn_of _ (by decide +kernel)) ggX7_reads_X7_readsWord
set_option maxRecDepth 20000 in
theorem ggX7_reads_X7_readsOpening : GoodIn wsX7_reads wsX7_readsOpening := goodIn_r _ [39, 1, 3, 9, 2, 7, 4, 5, 15, 16, 17, 13, 18, 6, 19, 24, 25, 26, 10, 11, 12, 14, 30, 31, 32, 33, 34, 35, 8, 40, 41, 42, 43, 44, 45, 46, 47, 48, 49, 50, 51, 52, 53, 54, 55, 56, 57, 58, 59, 60, 61, 62, 63, 64, 65, 66, 67, 68, 69, 70, 71, 72, 73, 74, 75, 76, 77, 78, 79, 80, 81, 82, 83] (by decide +kernel) (by decide +kernel)
set_option maxRecDepth 20000 in
theorem gX7_reads_X7_readsOpening : GoodIn wsX7_reads (wsV RX7 123 RX7 yX7_readsOpening wsX7_readsOpening) := goodIn_app (goodIn_of _ (by decide +kernel)) ggX7_reads_X7_readsOpening
theorem dX7_reads_0 : decode cX7_reads 0 = .ok (.aload_n 0, 1) := by decide +kernel
theorem dX7_reads_1 : decode cX7_reads 1 = .ok (.iconst 0, 1) := by decide +kernel
theorem dX7_reads_2 : decode cX7_reads 2 = .ok (.putfield 86, 3) := by decide +kernel
theorem dX7_reads_5 : decode cX7_reads 5 = .ok (.aload_n 0, 1) := by decide +kernel
theorem dX7_reads_6 : decode cX7_reads 6 = .ok (.iconst 0, 1) := by decide +kernel
theorem dX7_reads_7 : decode cX7_reads 7 = .ok (.putfield 93, 3) := by decide +kernel
theorem dX7_reads_10 : decode cX7_reads 10 = .ok (.aload_n 0, 1) := by decide +kernel
theorem dX7_reads_11 : decode cX7_reads 11 = .ok (.iconst 0, 1) := by decide +kernel
theorem dX7_reads_12 : decode cX7_reads 12 = .ok (.putfield 114, 3) := by decide +kernel
theorem dX7_reads_15 : decode cX7_reads 15 = .ok (.aload_n 0, 1) := by decide +kernel
theorem dX7_reads_16 : decode cX7_reads 16 = .ok (.iconst 0, 1) := by decide +kernel
theorem dX7_reads_17 : decode cX7_reads 17 = .ok (.putfield 104, 3) := by decide +kernel
theorem dX7_reads_20 : decode cX7_reads 20 = .ok (.aload_n 0, 1) := by decide +kernel
theorem dX7_reads_21 : decode cX7_reads 21 = .ok (.iconst 1, 1) := by decide +kernel
theorem dX7_reads_22 : decode cX7_reads 22 = .ok (.putfield 117, 3) := by decide +kernel
theorem dX7_reads_25 : decode cX7_reads 25 = .ok (.aload_n 0, 1) := by decide +kernel
theorem dX7_reads_26 : decode cX7_reads 26 = .ok (.invokevirtual 111, 3) := by decide +kernel
theorem dX7_reads_29 : decode cX7_reads 29 = .ok (.aload_n 0, 1) := by decide +kernel
theorem dX7_reads_30 : decode cX7_reads 30 = .ok (.getfield 86, 3) := by decide +kernel
theorem dX7_reads_33 : decode cX7_reads 33 = .ok (.aload_n 0, 1) := by decide +kernel
theorem dX7_reads_34 : decode cX7_reads 34 = .ok (.getfield 77, 3) := by decide +kernel
theorem dX7_reads_37 : decode cX7_reads 37 = .ok (.if_icmp .ge 199, 3) := by decide +kernel
theorem dX7_reads_40 : decode cX7_reads 40 = .ok (.aload_n 0, 1) := by decide +kernel
theorem dX7_reads_41 : decode cX7_reads 41 = .ok (.invokevirtual 89, 3) := by decide +kernel
theorem dX7_reads_44 : decode cX7_reads 44 = .ok (.istore_n 1, 1) := by decide +kernel
theorem dX7_reads_45 : decode cX7_reads 45 = .ok (.iload_n 1, 1) := by decide +kernel
theorem dX7_reads_46 : decode cX7_reads 46 = .ok (.bipush 41, 2) := by decide +kernel
theorem dX7_reads_48 : decode cX7_reads 48 = .ok (.if_icmp .ne 68, 3) := by decide +kernel
theorem dX7_reads_51 : decode cX7_reads 51 = .ok (.aload_n 0, 1) := by decide +kernel
theorem dX7_reads_52 : decode cX7_reads 52 = .ok (.getfield 114, 3) := by decide +kernel
theorem dX7_reads_55 : decode cX7_reads 55 = .ok (.ifCond .eq 28, 3) := by decide +kernel
theorem dX7_reads_58 : decode cX7_reads 58 = .ok (.aload_n 0, 1) := by decide +kernel
theorem dX7_reads_59 : decode cX7_reads 59 = .ok (.getfield 117, 3) := by decide +kernel
theorem dX7_reads_62 : decode cX7_reads 62 = .ok (.ifCond .ne 21, 3) := by decide +kernel
theorem dX7_reads_65 : decode cX7_reads 65 = .ok (.aload_n 0, 1) := by decide +kernel
theorem dX7_reads_66 : decode cX7_reads 66 = .ok (.getfield 104, 3) := by decide +kernel
theorem dX7_reads_69 : decode cX7_reads 69 = .ok (.aload_n 0, 1) := by decide +kernel
theorem dX7_reads_70 : decode cX7_reads 70 = .ok (.getfield 44, 3) := by decide +kernel
theorem dX7_reads_73 : decode cX7_reads 73 = .ok (.aload_n 0, 1) := by decide +kernel
theorem dX7_reads_74 : decode cX7_reads 74 = .ok (.getfield 114, 3) := by decide +kernel
theorem dX7_reads_77 : decode cX7_reads 77 = .ok (.iconst 1, 1) := by decide +kernel
theorem dX7_reads_78 : decode cX7_reads 78 = .ok (.isub, 1) := by decide +kernel
theorem dX7_reads_79 : decode cX7_reads 79 = .ok (.iaload, 1) := by decide +kernel
theorem dX7_reads_80 : decode cX7_reads 80 = .ok (.if_icmp .ne 5, 3) := by decide +kernel
theorem dX7_reads_83 : decode cX7_reads 83 = .ok (.iconst 0, 1) := by decide +kernel
theorem dX7_reads_84 : decode cX7_reads 84 = .ok (.ireturn, 1) := by decide +kernel
theorem dX7_reads_85 : decode cX7_reads 85 = .ok (.aload_n 0, 1) := by decide +kernel
theorem dX7_reads_86 : decode cX7_reads 86 = .ok (.dup, 1) := by decide +kernel
theorem dX7_reads_87 : decode cX7_reads 87 = .ok (.getfield 114, 3) := by decide +kernel
theorem dX7_reads_90 : decode cX7_reads 90 = .ok (.iconst 1, 1) := by decide +kernel
theorem dX7_reads_91 : decode cX7_reads 91 = .ok (.isub, 1) := by decide +kernel
theorem dX7_reads_92 : decode cX7_reads 92 = .ok (.putfield 114, 3) := by decide +kernel
theorem dX7_reads_95 : decode cX7_reads 95 = .ok (.aload_n 0, 1) := by decide +kernel
theorem dX7_reads_96 : decode cX7_reads 96 = .ok (.getfield 38, 3) := by decide +kernel
theorem dX7_reads_99 : decode cX7_reads 99 = .ok (.aload_n 0, 1) := by decide +kernel
theorem dX7_reads_100 : decode cX7_reads 100 = .ok (.getfield 41, 3) := by decide +kernel
theorem dX7_reads_103 : decode cX7_reads 103 = .ok (.aload_n 0, 1) := by decide +kernel
theorem dX7_reads_104 : decode cX7_reads 104 = .ok (.getfield 114, 3) := by decide +kernel
theorem dX7_reads_107 : decode cX7_reads 107 = .ok (.iaload, 1) := by decide +kernel
theorem dX7_reads_108 : decode cX7_reads 108 = .ok (.aload_n 0, 1) := by decide +kernel
theorem dX7_reads_109 : decode cX7_reads 109 = .ok (.getfield 93, 3) := by decide +kernel
theorem dX7_reads_112 : decode cX7_reads 112 = .ok (.iastore, 1) := by decide +kernel
theorem dX7_reads_113 : decode cX7_reads 113 = .ok (.goto 106, 3) := by decide +kernel
theorem dX7_reads_116 : decode cX7_reads 116 = .ok (.iload_n 1, 1) := by decide +kernel
theorem dX7_reads_117 : decode cX7_reads 117 = .ok (.bipush 104, 2) := by decide +kernel
theorem dX7_reads_119 : decode cX7_reads 119 = .ok (.if_icmp .eq 15, 3) := by decide +kernel
theorem dX7_reads_122 : decode cX7_reads 122 = .ok (.iload_n 1, 1) := by decide +kernel
theorem dX7_reads_123 : decode cX7_reads 123 = .ok (.bipush 99, 2) := by decide +kernel
theorem dX7_reads_125 : decode cX7_reads 125 = .ok (.if_icmp .eq 9, 3) := by decide +kernel
theorem dX7_reads_128 : decode cX7_reads 128 = .ok (.iload_n 1, 1) := by decide +kernel
theorem dX7_reads_129 : decode cX7_reads 129 = .ok (.bipush 100, 2) := by decide +kernel
theorem dX7_reads_131 : decode cX7_reads 131 = .ok (.if_icmp .ne 41, 3) := by decide +kernel
theorem dX7_reads_134 : decode cX7_reads 134 = .ok (.aload_n 0, 1) := by decide +kernel
theorem dX7_reads_135 : decode cX7_reads 135 = .ok (.dup, 1) := by decide +kernel
theorem dX7_reads_136 : decode cX7_reads 136 = .ok (.getfield 86, 3) := by decide +kernel
theorem dX7_reads_139 : decode cX7_reads 139 = .ok (.iconst 1, 1) := by decide +kernel
theorem dX7_reads_140 : decode cX7_reads 140 = .ok (.iadd, 1) := by decide +kernel
theorem dX7_reads_141 : decode cX7_reads 141 = .ok (.putfield 86, 3) := by decide +kernel
theorem dX7_reads_144 : decode cX7_reads 144 = .ok (.aload_n 0, 1) := by decide +kernel
theorem dX7_reads_145 : decode cX7_reads 145 = .ok (.iload_n 1, 1) := by decide +kernel
theorem dX7_reads_146 : decode cX7_reads 146 = .ok (.invokevirtual 120, 3) := by decide +kernel
theorem dX7_reads_149 : decode cX7_reads 149 = .ok (.ifCond .ne 5, 3) := by decide +kernel
theorem dX7_reads_152 : decode cX7_reads 152 = .ok (.iconst 0, 1) := by decide +kernel
theorem dX7_reads_153 : decode cX7_reads 153 = .ok (.ireturn, 1) := by decide +kernel
theorem dX7_reads_154 : decode cX7_reads 154 = .ok (.aload_n 0, 1) := by decide +kernel
theorem dX7_reads_155 : decode cX7_reads 155 = .ok (.dup, 1) := by decide +kernel
theorem dX7_reads_156 : decode cX7_reads 156 = .ok (.getfield 86, 3) := by decide +kernel
theorem dX7_reads_159 : decode cX7_reads 159 = .ok (.iconst 1, 1) := by decide +kernel
theorem dX7_reads_160 : decode cX7_reads 160 = .ok (.isub, 1) := by decide +kernel
theorem dX7_reads_161 : decode cX7_reads 161 = .ok (.putfield 86, 3) := by decide +kernel
theorem dX7_reads_164 : decode cX7_reads 164 = .ok (.aload_n 0, 1) := by decide +kernel
theorem dX7_reads_165 : decode cX7_reads 165 = .ok (.iconst 0, 1) := by decide +kernel
theorem dX7_reads_166 : decode cX7_reads 166 = .ok (.putfield 117, 3) := by decide +kernel
theorem dX7_reads_169 : decode cX7_reads 169 = .ok (.goto 50, 3) := by decide +kernel
theorem dX7_reads_172 : decode cX7_reads 172 = .ok (.iload_n 1, 1) := by decide +kernel
theorem dX7_reads_173 : decode cX7_reads 173 = .ok (.bipush 114, 2) := by decide +kernel
theorem dX7_reads_175 : decode cX7_reads 175 = .ok (.if_icmp .eq 9, 3) := by decide +kernel
theorem dX7_reads_178 : decode cX7_reads 178 = .ok (.iload_n 1, 1) := by decide +kernel
theorem dX7_reads_179 : decode cX7_reads 179 = .ok (.bipush 109, 2) := by decide +kernel
theorem dX7_reads_181 : decode cX7_reads 181 = .ok (.if_icmp .ne 36, 3) := by decide +kernel
theorem dX7_reads_184 : decode cX7_reads 184 = .ok (.aload_n 0, 1) := by decide +kernel
theorem dX7_reads_185 : decode cX7_reads 185 = .ok (.dup, 1) := by decide +kernel
theorem dX7_reads_186 : decode cX7_reads 186 = .ok (.getfield 86, 3) := by decide +kernel
theorem dX7_reads_189 : decode cX7_reads 189 = .ok (.iconst 1, 1) := by decide +kernel
theorem dX7_reads_190 : decode cX7_reads 190 = .ok (.iadd, 1) := by decide +kernel
theorem dX7_reads_191 : decode cX7_reads 191 = .ok (.putfield 86, 3) := by decide +kernel
theorem dX7_reads_194 : decode cX7_reads 194 = .ok (.aload_n 0, 1) := by decide +kernel
theorem dX7_reads_195 : decode cX7_reads 195 = .ok (.iload_n 1, 1) := by decide +kernel
theorem dX7_reads_196 : decode cX7_reads 196 = .ok (.invokevirtual 123, 3) := by decide +kernel
theorem dX7_reads_199 : decode cX7_reads 199 = .ok (.ifCond .ne 5, 3) := by decide +kernel
theorem dX7_reads_202 : decode cX7_reads 202 = .ok (.iconst 0, 1) := by decide +kernel
theorem dX7_reads_203 : decode cX7_reads 203 = .ok (.ireturn, 1) := by decide +kernel
theorem dX7_reads_204 : decode cX7_reads 204 = .ok (.aload_n 0, 1) := by decide +kernel
theorem dX7_reads_205 : decode cX7_reads 205 = .ok (.dup, 1) := by decide +kernel
theorem dX7_reads_206 : decode cX7_reads 206 = .ok (.getfield 86, 3) := by decide +kernel
theorem dX7_reads_209 : decode cX7_reads 209 = .ok (.iconst 1, 1) := by decide +kernel
theorem dX7_reads_210 : decode cX7_reads 210 = .ok (.isub, 1) := by decide +kernel
theorem dX7_reads_211 : decode cX7_reads 211 = .ok (.putfield 86, 3) := by decide +kernel
theorem dX7_reads_214 : decode cX7_reads 214 = .ok (.goto 5, 3) := by decide +kernel
theorem dX7_reads_217 : decode cX7_reads 217 = .ok (.iconst 0, 1) := by decide +kernel
theorem dX7_reads_218 : decode cX7_reads 218 = .ok (.ireturn, 1) := by decide +kernel
theorem dX7_reads_219 : decode cX7_reads 219 = .ok (.aload_n 0, 1) := by decide +kernel
theorem dX7_reads_220 : decode cX7_reads 220 = .ok (.dup, 1) := by decide +kernel
theorem dX7_reads_221 : decode cX7_reads 221 = .ok (.getfield 86, 3) := by decide +kernel
theorem dX7_reads_224 : decode cX7_reads 224 = .ok (.iconst 1, 1) := by decide +kernel
theorem dX7_reads_225 : decode cX7_reads 225 = .ok (.iadd, 1) := by decide +kernel
theorem dX7_reads_226 : decode cX7_reads 226 = .ok (.putfield 86, 3) := by decide +kernel
theorem dX7_reads_229 : decode cX7_reads 229 = .ok (.aload_n 0, 1) := by decide +kernel
theorem dX7_reads_230 : decode cX7_reads 230 = .ok (.invokevirtual 111, 3) := by decide +kernel
theorem dX7_reads_233 : decode cX7_reads 233 = .ok (.goto (-204), 3) := by decide +kernel
theorem dX7_reads_236 : decode cX7_reads 236 = .ok (.aload_n 0, 1) := by decide +kernel
theorem dX7_reads_237 : decode cX7_reads 237 = .ok (.getfield 114, 3) := by decide +kernel
theorem dX7_reads_240 : decode cX7_reads 240 = .ok (.ifCond .ne 14, 3) := by decide +kernel
theorem dX7_reads_243 : decode cX7_reads 243 = .ok (.aload_n 0, 1) := by decide +kernel
theorem dX7_reads_244 : decode cX7_reads 244 = .ok (.getfield 117, 3) := by decide +kernel
theorem dX7_reads_247 : decode cX7_reads 247 = .ok (.ifCond .ne 7, 3) := by decide +kernel
theorem dX7_reads_250 : decode cX7_reads 250 = .ok (.iconst 1, 1) := by decide +kernel
theorem dX7_reads_251 : decode cX7_reads 251 = .ok (.goto 4, 3) := by decide +kernel
theorem dX7_reads_254 : decode cX7_reads 254 = .ok (.iconst 0, 1) := by decide +kernel
theorem dX7_reads_255 : decode cX7_reads 255 = .ok (.ireturn, 1) := by decide +kernel
theorem dX7_sum_0 : decode cX7_sum 0 = .ok (.lload_n 0, 1) := by decide +kernel
theorem dX7_sum_1 : decode cX7_sum 1 = .ok (.lload_n 2, 1) := by decide +kernel
theorem dX7_sum_2 : decode cX7_sum 2 = .ok (.ladd, 1) := by decide +kernel
theorem dX7_sum_3 : decode cX7_sum 3 = .ok (.ldc2_w 126, 3) := by decide +kernel
theorem dX7_sum_6 : decode cX7_sum 6 = .ok (.lcmp, 1) := by decide +kernel
theorem dX7_sum_7 : decode cX7_sum 7 = .ok (.ifCond .le 9, 3) := by decide +kernel
theorem dX7_sum_10 : decode cX7_sum 10 = .ok (.ldc2_w 126, 3) := by decide +kernel
theorem dX7_sum_13 : decode cX7_sum 13 = .ok (.goto 6, 3) := by decide +kernel
theorem dX7_sum_16 : decode cX7_sum 16 = .ok (.lload_n 0, 1) := by decide +kernel
theorem dX7_sum_17 : decode cX7_sum 17 = .ok (.lload_n 2, 1) := by decide +kernel
theorem dX7_sum_18 : decode cX7_sum 18 = .ok (.ladd, 1) := by decide +kernel
theorem dX7_sum_19 : decode cX7_sum 19 = .ok (.lreturn, 1) := by decide +kernel
theorem dX7_times_0 : decode cX7_times 0 = .ok (.aload_n 0, 1) := by decide +kernel
theorem dX7_times_1 : decode cX7_times 1 = .ok (.getfield 13, 3) := by decide +kernel
theorem dX7_times_4 : decode cX7_times 4 = .ok (.iload_n 1, 1) := by decide +kernel
theorem dX7_times_5 : decode cX7_times 5 = .ok (.iaload, 1) := by decide +kernel
theorem dX7_times_6 : decode cX7_times 6 = .ok (.iconst 3, 1) := by decide +kernel
theorem dX7_times_7 : decode cX7_times 7 = .ok (.if_icmp .ne 13, 3) := by decide +kernel
theorem dX7_times_10 : decode cX7_times 10 = .ok (.aload_n 0, 1) := by decide +kernel
theorem dX7_times_11 : decode cX7_times 11 = .ok (.getfield 16, 3) := by decide +kernel
theorem dX7_times_14 : decode cX7_times 14 = .ok (.iload_n 1, 1) := by decide +kernel
theorem dX7_times_15 : decode cX7_times 15 = .ok (.iaload, 1) := by decide +kernel
theorem dX7_times_16 : decode cX7_times 16 = .ok (.i2l, 1) := by decide +kernel
theorem dX7_times_17 : decode cX7_times 17 = .ok (.goto 6, 3) := by decide +kernel
theorem dX7_times_20 : decode cX7_times 20 = .ok (.ldc2_w 128, 3) := by decide +kernel
theorem dX7_times_23 : decode cX7_times 23 = .ok (.aload_n 0, 1) := by decide +kernel
theorem dX7_times_24 : decode cX7_times 24 = .ok (.getfield 28, 3) := by decide +kernel
theorem dX7_times_27 : decode cX7_times 27 = .ok (.iload_n 1, 1) := by decide +kernel
theorem dX7_times_28 : decode cX7_times 28 = .ok (.laload, 1) := by decide +kernel
theorem dX7_times_29 : decode cX7_times 29 = .ok (.lmul, 1) := by decide +kernel
theorem dX7_times_30 : decode cX7_times 30 = .ok (.lstore_n 2, 1) := by decide +kernel
theorem dX7_times_31 : decode cX7_times 31 = .ok (.lload_n 2, 1) := by decide +kernel
theorem dX7_times_32 : decode cX7_times 32 = .ok (.ldc2_w 126, 3) := by decide +kernel
theorem dX7_times_35 : decode cX7_times 35 = .ok (.lcmp, 1) := by decide +kernel
theorem dX7_times_36 : decode cX7_times 36 = .ok (.ifCond .le 9, 3) := by decide +kernel
theorem dX7_times_39 : decode cX7_times 39 = .ok (.ldc2_w 126, 3) := by decide +kernel
theorem dX7_times_42 : decode cX7_times 42 = .ok (.goto 4, 3) := by decide +kernel
theorem dX7_times_45 : decode cX7_times 45 = .ok (.lload_n 2, 1) := by decide +kernel
theorem dX7_times_46 : decode cX7_times 46 = .ok (.lreturn, 1) := by decide +kernel
theorem dX7_isBracket_0 : decode cX7_isBracket 0 = .ok (.aload_n 0, 1) := by decide +kernel
theorem dX7_isBracket_1 : decode cX7_isBracket 1 = .ok (.getfield 13, 3) := by decide +kernel
theorem dX7_isBracket_4 : decode cX7_isBracket 4 = .ok (.iload_n 1, 1) := by decide +kernel
theorem dX7_isBracket_5 : decode cX7_isBracket 5 = .ok (.iaload, 1) := by decide +kernel
theorem dX7_isBracket_6 : decode cX7_isBracket 6 = .ok (.iconst 3, 1) := by decide +kernel
theorem dX7_isBracket_7 : decode cX7_isBracket 7 = .ok (.if_icmp .lt 7, 3) := by decide +kernel
theorem dX7_isBracket_10 : decode cX7_isBracket 10 = .ok (.iconst 1, 1) := by decide +kernel
theorem dX7_isBracket_11 : decode cX7_isBracket 11 = .ok (.goto 4, 3) := by decide +kernel
theorem dX7_isBracket_14 : decode cX7_isBracket 14 = .ok (.iconst 0, 1) := by decide +kernel
theorem dX7_isBracket_15 : decode cX7_isBracket 15 = .ok (.ireturn, 1) := by decide +kernel
set_option maxRecDepth 20000 in
theorem ggX7_reckon_X7_isBracket : GoodIn wsX7_reckon wsX7_isBracket := goodIn_r _ [13, 5, 23, 24, 25, 26, 27, 28, 29, 30, 31, 32, 33, 34, 35, 36, 37, 38, 39, 40, 41, 42, 43, 44, 45, 46, 47, 48, 49, 50, 51, 52, 53, 54, 55, 56, 57, 58, 59, 60, 61, 62, 63, 64, 65, 66] (by decide +kernel) (by decide +kernel)
set_option maxRecDepth 20000 in
theorem gX7_reckon_X7_isBracket : GoodIn wsX7_reckon (wsV RX7 137 RX7 yX7_isBracket wsX7_isBracket) := goodIn_app (goodIn_of _ (by decide +kernel)) ggX7_reckon_X7_isBracket
set_option maxRecDepth 20000 in
theorem ggX7_reckon_X7_times : GoodIn wsX7_reckon wsX7_times := goodIn_r _ [17, 5, 6, 18, 3, 19, 23, 24, 25, 26, 27, 28, 29, 30, 31, 32, 33, 34, 35, 36, 37, 38, 39, 40, 41, 42, 43, 44, 45, 46, 47, 48, 49, 50, 51, 52, 53, 54, 55, 56, 57, 58, 59, 60, 61, 62, 63, 64, 65, 66] (by decide +kernel) (by decide +kernel)
set_option maxRecDepth 20000 in
theorem gX7_reckon_X7_times : GoodIn wsX7_reckon (wsV RX7 140 RX7 yX7_times wsX7_times) := goodIn_app (goodIn_of _ (by decide +kernel)) ggX7_reckon_X7_times
set_option maxRecDepth 20000 in
theorem ggX7_reckon_X7_sum : GoodIn wsX7_reckon wsX7_sum := goodIn_r _ [22, 19] (by decide +kernel) (by decide +kernel)
set_option maxRecDepth 20000 in
theorem gX7_reckon_X7_sum : GoodIn wsX7_reckon (va_wsS RX7 144 yX7_sum wsX7_sum) := goodIn_app (goodIn_of _ (by decide +kernel)) ggX7_reckon_X7_sum
theorem dX7_reckon_0 : decode cX7_reckon 0 = .ok (.aload_n 0, 1) := by decide +kernel
theorem dX7_reckon_1 : decode cX7_reckon 1 = .ok (.lconst 0, 1) := by decide +kernel
theorem dX7_reckon_2 : decode cX7_reckon 2 = .ok (.putfield 130, 3) := by decide +kernel
theorem dX7_reckon_5 : decode cX7_reckon 5 = .ok (.aload_n 0, 1) := by decide +kernel
theorem dX7_reckon_6 : decode cX7_reckon 6 = .ok (.getfield 134, 3) := by decide +kernel
theorem dX7_reckon_9 : decode cX7_reckon 9 = .ok (.iconst 1, 1) := by decide +kernel
theorem dX7_reckon_10 : decode cX7_reckon 10 = .ok (.isub, 1) := by decide +kernel
theorem dX7_reckon_11 : decode cX7_reckon 11 = .ok (.istore_n 1, 1) := by decide +kernel
theorem dX7_reckon_12 : decode cX7_reckon 12 = .ok (.iload_n 1, 1) := by decide +kernel
theorem dX7_reckon_13 : decode cX7_reckon 13 = .ok (.ifCond .lt 199, 3) := by decide +kernel
theorem dX7_reckon_16 : decode cX7_reckon 16 = .ok (.aload_n 0, 1) := by decide +kernel
theorem dX7_reckon_17 : decode cX7_reckon 17 = .ok (.getfield 28, 3) := by decide +kernel
theorem dX7_reckon_20 : decode cX7_reckon 20 = .ok (.iload_n 1, 1) := by decide +kernel
theorem dX7_reckon_21 : decode cX7_reckon 21 = .ok (.lconst 0, 1) := by decide +kernel
theorem dX7_reckon_22 : decode cX7_reckon 22 = .ok (.lastore, 1) := by decide +kernel
theorem dX7_reckon_23 : decode cX7_reckon 23 = .ok (.aload_n 0, 1) := by decide +kernel
theorem dX7_reckon_24 : decode cX7_reckon 24 = .ok (.getfield 22, 3) := by decide +kernel
theorem dX7_reckon_27 : decode cX7_reckon 27 = .ok (.iload_n 1, 1) := by decide +kernel
theorem dX7_reckon_28 : decode cX7_reckon 28 = .ok (.aload_n 0, 1) := by decide +kernel
theorem dX7_reckon_29 : decode cX7_reckon 29 = .ok (.getfield 13, 3) := by decide +kernel
theorem dX7_reckon_32 : decode cX7_reckon 32 = .ok (.iload_n 1, 1) := by decide +kernel
theorem dX7_reckon_33 : decode cX7_reckon 33 = .ok (.iaload, 1) := by decide +kernel
theorem dX7_reckon_34 : decode cX7_reckon 34 = .ok (.iconst 1, 1) := by decide +kernel
theorem dX7_reckon_35 : decode cX7_reckon 35 = .ok (.if_icmp .ne 12, 3) := by decide +kernel
theorem dX7_reckon_38 : decode cX7_reckon 38 = .ok (.aload_n 0, 1) := by decide +kernel
theorem dX7_reckon_39 : decode cX7_reckon 39 = .ok (.getfield 16, 3) := by decide +kernel
theorem dX7_reckon_42 : decode cX7_reckon 42 = .ok (.iload_n 1, 1) := by decide +kernel
theorem dX7_reckon_43 : decode cX7_reckon 43 = .ok (.iaload, 1) := by decide +kernel
theorem dX7_reckon_44 : decode cX7_reckon 44 = .ok (.goto 4, 3) := by decide +kernel
theorem dX7_reckon_47 : decode cX7_reckon 47 = .ok (.iconst (-1), 1) := by decide +kernel
theorem dX7_reckon_48 : decode cX7_reckon 48 = .ok (.iastore, 1) := by decide +kernel
theorem dX7_reckon_49 : decode cX7_reckon 49 = .ok (.aload_n 0, 1) := by decide +kernel
theorem dX7_reckon_50 : decode cX7_reckon 50 = .ok (.getfield 25, 3) := by decide +kernel
theorem dX7_reckon_53 : decode cX7_reckon 53 = .ok (.iload_n 1, 1) := by decide +kernel
theorem dX7_reckon_54 : decode cX7_reckon 54 = .ok (.aload_n 0, 1) := by decide +kernel
theorem dX7_reckon_55 : decode cX7_reckon 55 = .ok (.getfield 13, 3) := by decide +kernel
theorem dX7_reckon_58 : decode cX7_reckon 58 = .ok (.iload_n 1, 1) := by decide +kernel
theorem dX7_reckon_59 : decode cX7_reckon 59 = .ok (.iaload, 1) := by decide +kernel
theorem dX7_reckon_60 : decode cX7_reckon 60 = .ok (.iconst 2, 1) := by decide +kernel
theorem dX7_reckon_61 : decode cX7_reckon 61 = .ok (.if_icmp .ne 12, 3) := by decide +kernel
theorem dX7_reckon_64 : decode cX7_reckon 64 = .ok (.aload_n 0, 1) := by decide +kernel
theorem dX7_reckon_65 : decode cX7_reckon 65 = .ok (.getfield 16, 3) := by decide +kernel
theorem dX7_reckon_68 : decode cX7_reckon 68 = .ok (.iload_n 1, 1) := by decide +kernel
theorem dX7_reckon_69 : decode cX7_reckon 69 = .ok (.iaload, 1) := by decide +kernel
theorem dX7_reckon_70 : decode cX7_reckon 70 = .ok (.goto 4, 3) := by decide +kernel
theorem dX7_reckon_73 : decode cX7_reckon 73 = .ok (.iconst (-1), 1) := by decide +kernel
theorem dX7_reckon_74 : decode cX7_reckon 74 = .ok (.iastore, 1) := by decide +kernel
theorem dX7_reckon_75 : decode cX7_reckon 75 = .ok (.iload_n 1, 1) := by decide +kernel
theorem dX7_reckon_76 : decode cX7_reckon 76 = .ok (.iconst 1, 1) := by decide +kernel
theorem dX7_reckon_77 : decode cX7_reckon 77 = .ok (.iadd, 1) := by decide +kernel
theorem dX7_reckon_78 : decode cX7_reckon 78 = .ok (.istore_n 2, 1) := by decide +kernel
theorem dX7_reckon_79 : decode cX7_reckon 79 = .ok (.iload_n 2, 1) := by decide +kernel
theorem dX7_reckon_80 : decode cX7_reckon 80 = .ok (.aload_n 0, 1) := by decide +kernel
theorem dX7_reckon_81 : decode cX7_reckon 81 = .ok (.getfield 19, 3) := by decide +kernel
theorem dX7_reckon_84 : decode cX7_reckon 84 = .ok (.iload_n 1, 1) := by decide +kernel
theorem dX7_reckon_85 : decode cX7_reckon 85 = .ok (.iaload, 1) := by decide +kernel
theorem dX7_reckon_86 : decode cX7_reckon 86 = .ok (.if_icmp .ge 120, 3) := by decide +kernel
theorem dX7_reckon_89 : decode cX7_reckon 89 = .ok (.aload_n 0, 1) := by decide +kernel
theorem dX7_reckon_90 : decode cX7_reckon 90 = .ok (.getfield 28, 3) := by decide +kernel
theorem dX7_reckon_93 : decode cX7_reckon 93 = .ok (.iload_n 1, 1) := by decide +kernel
theorem dX7_reckon_94 : decode cX7_reckon 94 = .ok (.aload_n 0, 1) := by decide +kernel
theorem dX7_reckon_95 : decode cX7_reckon 95 = .ok (.getfield 28, 3) := by decide +kernel
theorem dX7_reckon_98 : decode cX7_reckon 98 = .ok (.iload_n 1, 1) := by decide +kernel
theorem dX7_reckon_99 : decode cX7_reckon 99 = .ok (.laload, 1) := by decide +kernel
theorem dX7_reckon_100 : decode cX7_reckon 100 = .ok (.aload_n 0, 1) := by decide +kernel
theorem dX7_reckon_101 : decode cX7_reckon 101 = .ok (.iload_n 2, 1) := by decide +kernel
theorem dX7_reckon_102 : decode cX7_reckon 102 = .ok (.invokevirtual 137, 3) := by decide +kernel
theorem dX7_reckon_105 : decode cX7_reckon 105 = .ok (.ifCond .eq 11, 3) := by decide +kernel
theorem dX7_reckon_108 : decode cX7_reckon 108 = .ok (.aload_n 0, 1) := by decide +kernel
theorem dX7_reckon_109 : decode cX7_reckon 109 = .ok (.iload_n 2, 1) := by decide +kernel
theorem dX7_reckon_110 : decode cX7_reckon 110 = .ok (.invokevirtual 140, 3) := by decide +kernel
theorem dX7_reckon_113 : decode cX7_reckon 113 = .ok (.goto 17, 3) := by decide +kernel
theorem dX7_reckon_116 : decode cX7_reckon 116 = .ok (.aload_n 0, 1) := by decide +kernel
theorem dX7_reckon_117 : decode cX7_reckon 117 = .ok (.getfield 13, 3) := by decide +kernel
theorem dX7_reckon_120 : decode cX7_reckon 120 = .ok (.iload_n 2, 1) := by decide +kernel
theorem dX7_reckon_121 : decode cX7_reckon 121 = .ok (.iaload, 1) := by decide +kernel
theorem dX7_reckon_122 : decode cX7_reckon 122 = .ok (.ifCond .ne 7, 3) := by decide +kernel
theorem dX7_reckon_125 : decode cX7_reckon 125 = .ok (.lconst 1, 1) := by decide +kernel
theorem dX7_reckon_126 : decode cX7_reckon 126 = .ok (.goto 4, 3) := by decide +kernel
theorem dX7_reckon_129 : decode cX7_reckon 129 = .ok (.lconst 0, 1) := by decide +kernel
theorem dX7_reckon_130 : decode cX7_reckon 130 = .ok (.invokestatic 144, 3) := by decide +kernel
theorem dX7_reckon_133 : decode cX7_reckon 133 = .ok (.lastore, 1) := by decide +kernel
theorem dX7_reckon_134 : decode cX7_reckon 134 = .ok (.aload_n 0, 1) := by decide +kernel
theorem dX7_reckon_135 : decode cX7_reckon 135 = .ok (.getfield 22, 3) := by decide +kernel
theorem dX7_reckon_138 : decode cX7_reckon 138 = .ok (.iload_n 1, 1) := by decide +kernel
theorem dX7_reckon_139 : decode cX7_reckon 139 = .ok (.aload_n 0, 1) := by decide +kernel
theorem dX7_reckon_140 : decode cX7_reckon 140 = .ok (.getfield 22, 3) := by decide +kernel
theorem dX7_reckon_143 : decode cX7_reckon 143 = .ok (.iload_n 2, 1) := by decide +kernel
theorem dX7_reckon_144 : decode cX7_reckon 144 = .ok (.iaload, 1) := by decide +kernel
theorem dX7_reckon_145 : decode cX7_reckon 145 = .ok (.iconst (-1), 1) := by decide +kernel
theorem dX7_reckon_146 : decode cX7_reckon 146 = .ok (.if_icmp .ne 12, 3) := by decide +kernel
theorem dX7_reckon_149 : decode cX7_reckon 149 = .ok (.aload_n 0, 1) := by decide +kernel
theorem dX7_reckon_150 : decode cX7_reckon 150 = .ok (.getfield 22, 3) := by decide +kernel
theorem dX7_reckon_153 : decode cX7_reckon 153 = .ok (.iload_n 1, 1) := by decide +kernel
theorem dX7_reckon_154 : decode cX7_reckon 154 = .ok (.iaload, 1) := by decide +kernel
theorem dX7_reckon_155 : decode cX7_reckon 155 = .ok (.goto 9, 3) := by decide +kernel
theorem dX7_reckon_158 : decode cX7_reckon 158 = .ok (.aload_n 0, 1) := by decide +kernel
theorem dX7_reckon_159 : decode cX7_reckon 159 = .ok (.getfield 22, 3) := by decide +kernel
theorem dX7_reckon_162 : decode cX7_reckon 162 = .ok (.iload_n 2, 1) := by decide +kernel
theorem dX7_reckon_163 : decode cX7_reckon 163 = .ok (.iaload, 1) := by decide +kernel
theorem dX7_reckon_164 : decode cX7_reckon 164 = .ok (.iastore, 1) := by decide +kernel
theorem dX7_reckon_165 : decode cX7_reckon 165 = .ok (.aload_n 0, 1) := by decide +kernel
theorem dX7_reckon_166 : decode cX7_reckon 166 = .ok (.getfield 25, 3) := by decide +kernel
theorem dX7_reckon_169 : decode cX7_reckon 169 = .ok (.iload_n 1, 1) := by decide +kernel
theorem dX7_reckon_170 : decode cX7_reckon 170 = .ok (.aload_n 0, 1) := by decide +kernel
theorem dX7_reckon_171 : decode cX7_reckon 171 = .ok (.getfield 25, 3) := by decide +kernel
theorem dX7_reckon_174 : decode cX7_reckon 174 = .ok (.iload_n 2, 1) := by decide +kernel
theorem dX7_reckon_175 : decode cX7_reckon 175 = .ok (.iaload, 1) := by decide +kernel
theorem dX7_reckon_176 : decode cX7_reckon 176 = .ok (.iconst (-1), 1) := by decide +kernel
theorem dX7_reckon_177 : decode cX7_reckon 177 = .ok (.if_icmp .ne 12, 3) := by decide +kernel
theorem dX7_reckon_180 : decode cX7_reckon 180 = .ok (.aload_n 0, 1) := by decide +kernel
theorem dX7_reckon_181 : decode cX7_reckon 181 = .ok (.getfield 25, 3) := by decide +kernel
theorem dX7_reckon_184 : decode cX7_reckon 184 = .ok (.iload_n 1, 1) := by decide +kernel
theorem dX7_reckon_185 : decode cX7_reckon 185 = .ok (.iaload, 1) := by decide +kernel
theorem dX7_reckon_186 : decode cX7_reckon 186 = .ok (.goto 9, 3) := by decide +kernel
theorem dX7_reckon_189 : decode cX7_reckon 189 = .ok (.aload_n 0, 1) := by decide +kernel
theorem dX7_reckon_190 : decode cX7_reckon 190 = .ok (.getfield 25, 3) := by decide +kernel
theorem dX7_reckon_193 : decode cX7_reckon 193 = .ok (.iload_n 2, 1) := by decide +kernel
theorem dX7_reckon_194 : decode cX7_reckon 194 = .ok (.iaload, 1) := by decide +kernel
theorem dX7_reckon_195 : decode cX7_reckon 195 = .ok (.iastore, 1) := by decide +kernel
theorem dX7_reckon_196 : decode cX7_reckon 196 = .ok (.aload_n 0, 1) := by decide +kernel
theorem dX7_reckon_197 : decode cX7_reckon 197 = .ok (.getfield 19, 3) := by decide +kernel
theorem dX7_reckon_200 : decode cX7_reckon 200 = .ok (.iload_n 2, 1) := by decide +kernel
theorem dX7_reckon_201 : decode cX7_reckon 201 = .ok (.iaload, 1) := by decide +kernel
theorem dX7_reckon_202 : decode cX7_reckon 202 = .ok (.istore_n 2, 1) := by decide +kernel
theorem dX7_reckon_203 : decode cX7_reckon 203 = .ok (.goto (-124), 3) := by decide +kernel
theorem dX7_reckon_206 : decode cX7_reckon 206 = .ok (.iinc 1 (-1), 3) := by decide +kernel
theorem dX7_reckon_209 : decode cX7_reckon 209 = .ok (.goto (-197), 3) := by decide +kernel
theorem dX7_reckon_212 : decode cX7_reckon 212 = .ok (.iconst 0, 1) := by decide +kernel
theorem dX7_reckon_213 : decode cX7_reckon 213 = .ok (.istore_n 1, 1) := by decide +kernel
theorem dX7_reckon_214 : decode cX7_reckon 214 = .ok (.iload_n 1, 1) := by decide +kernel
theorem dX7_reckon_215 : decode cX7_reckon 215 = .ok (.aload_n 0, 1) := by decide +kernel
theorem dX7_reckon_216 : decode cX7_reckon 216 = .ok (.getfield 134, 3) := by decide +kernel
theorem dX7_reckon_219 : decode cX7_reckon 219 = .ok (.if_icmp .ge 54, 3) := by decide +kernel
theorem dX7_reckon_222 : decode cX7_reckon 222 = .ok (.aload_n 0, 1) := by decide +kernel
theorem dX7_reckon_223 : decode cX7_reckon 223 = .ok (.aload_n 0, 1) := by decide +kernel
theorem dX7_reckon_224 : decode cX7_reckon 224 = .ok (.getfield 130, 3) := by decide +kernel
theorem dX7_reckon_227 : decode cX7_reckon 227 = .ok (.aload_n 0, 1) := by decide +kernel
theorem dX7_reckon_228 : decode cX7_reckon 228 = .ok (.iload_n 1, 1) := by decide +kernel
theorem dX7_reckon_229 : decode cX7_reckon 229 = .ok (.invokevirtual 137, 3) := by decide +kernel
theorem dX7_reckon_232 : decode cX7_reckon 232 = .ok (.ifCond .eq 11, 3) := by decide +kernel
theorem dX7_reckon_235 : decode cX7_reckon 235 = .ok (.aload_n 0, 1) := by decide +kernel
theorem dX7_reckon_236 : decode cX7_reckon 236 = .ok (.iload_n 1, 1) := by decide +kernel
theorem dX7_reckon_237 : decode cX7_reckon 237 = .ok (.invokevirtual 140, 3) := by decide +kernel
theorem dX7_reckon_240 : decode cX7_reckon 240 = .ok (.goto 17, 3) := by decide +kernel
theorem dX7_reckon_243 : decode cX7_reckon 243 = .ok (.aload_n 0, 1) := by decide +kernel
theorem dX7_reckon_244 : decode cX7_reckon 244 = .ok (.getfield 13, 3) := by decide +kernel
theorem dX7_reckon_247 : decode cX7_reckon 247 = .ok (.iload_n 1, 1) := by decide +kernel
theorem dX7_reckon_248 : decode cX7_reckon 248 = .ok (.iaload, 1) := by decide +kernel
theorem dX7_reckon_249 : decode cX7_reckon 249 = .ok (.ifCond .ne 7, 3) := by decide +kernel
theorem dX7_reckon_252 : decode cX7_reckon 252 = .ok (.lconst 1, 1) := by decide +kernel
theorem dX7_reckon_253 : decode cX7_reckon 253 = .ok (.goto 4, 3) := by decide +kernel
theorem dX7_reckon_256 : decode cX7_reckon 256 = .ok (.lconst 0, 1) := by decide +kernel
theorem dX7_reckon_257 : decode cX7_reckon 257 = .ok (.invokestatic 144, 3) := by decide +kernel
theorem dX7_reckon_260 : decode cX7_reckon 260 = .ok (.putfield 130, 3) := by decide +kernel
theorem dX7_reckon_263 : decode cX7_reckon 263 = .ok (.aload_n 0, 1) := by decide +kernel
theorem dX7_reckon_264 : decode cX7_reckon 264 = .ok (.getfield 19, 3) := by decide +kernel
theorem dX7_reckon_267 : decode cX7_reckon 267 = .ok (.iload_n 1, 1) := by decide +kernel
theorem dX7_reckon_268 : decode cX7_reckon 268 = .ok (.iaload, 1) := by decide +kernel
theorem dX7_reckon_269 : decode cX7_reckon 269 = .ok (.istore_n 1, 1) := by decide +kernel
theorem dX7_reckon_270 : decode cX7_reckon 270 = .ok (.goto (-56), 3) := by decide +kernel
theorem dX7_reckon_273 : decode cX7_reckon 273 = .ok (.return_, 1) := by decide +kernel
set_option maxRecDepth 20000 in
theorem ggX7_swap_X7_reckon : GoodIn wsX7_swap wsX7_reckon := goodIn_r _ [13, 14, 1, 15, 16, 3, 4, 17, 5, 18, 19, 20, 12, 21, 22, 23, 24, 25, 26, 27, 28, 29, 30, 31, 32, 33, 34, 35, 36, 37, 38, 39, 40, 41, 42, 43, 44, 45, 46, 47, 48, 49, 50, 51, 52, 53, 54, 55, 56, 57, 58, 59, 60, 61, 62, 63, 64, 65, 66, 67, 68, 69, 70, 71, 72, 73, 74] (by decide +kernel) (by decide +kernel)
set_option maxRecDepth 20000 in
theorem gX7_swap_X7_reckon : GoodIn wsX7_swap (wsV RX7 148 RX7 yX7_reckon wsX7_reckon) := goodIn_app (goodIn_of _ (by decide +kernel)) ggX7_swap_X7_reckon
theorem dX7_swap_0 : decode cX7_swap 0 = .ok (.aload_n 0, 1) := by decide +kernel
theorem dX7_swap_1 : decode cX7_swap 1 = .ok (.getfield 134, 3) := by decide +kernel
theorem dX7_swap_4 : decode cX7_swap 4 = .ok (.aload_n 0, 1) := by decide +kernel
theorem dX7_swap_5 : decode cX7_swap 5 = .ok (.getfield 93, 3) := by decide +kernel
theorem dX7_swap_8 : decode cX7_swap 8 = .ok (.if_icmp .le 10, 3) := by decide +kernel
theorem dX7_swap_11 : decode cX7_swap 11 = .ok (.aload_n 0, 1) := by decide +kernel
theorem dX7_swap_12 : decode cX7_swap 12 = .ok (.getfield 134, 3) := by decide +kernel
theorem dX7_swap_15 : decode cX7_swap 15 = .ok (.goto 7, 3) := by decide +kernel
theorem dX7_swap_18 : decode cX7_swap 18 = .ok (.aload_n 0, 1) := by decide +kernel
theorem dX7_swap_19 : decode cX7_swap 19 = .ok (.getfield 93, 3) := by decide +kernel
theorem dX7_swap_22 : decode cX7_swap 22 = .ok (.istore_n 1, 1) := by decide +kernel
theorem dX7_swap_23 : decode cX7_swap 23 = .ok (.iconst 0, 1) := by decide +kernel
theorem dX7_swap_24 : decode cX7_swap 24 = .ok (.istore_n 2, 1) := by decide +kernel
theorem dX7_swap_25 : decode cX7_swap 25 = .ok (.iload_n 2, 1) := by decide +kernel
theorem dX7_swap_26 : decode cX7_swap 26 = .ok (.iload_n 1, 1) := by decide +kernel
theorem dX7_swap_27 : decode cX7_swap 27 = .ok (.if_icmp .ge 91, 3) := by decide +kernel
theorem dX7_swap_30 : decode cX7_swap 30 = .ok (.aload_n 0, 1) := by decide +kernel
theorem dX7_swap_31 : decode cX7_swap 31 = .ok (.getfield 13, 3) := by decide +kernel
theorem dX7_swap_34 : decode cX7_swap 34 = .ok (.iload_n 2, 1) := by decide +kernel
theorem dX7_swap_35 : decode cX7_swap 35 = .ok (.iaload, 1) := by decide +kernel
theorem dX7_swap_36 : decode cX7_swap 36 = .ok (.istore_n 3, 1) := by decide +kernel
theorem dX7_swap_37 : decode cX7_swap 37 = .ok (.aload_n 0, 1) := by decide +kernel
theorem dX7_swap_38 : decode cX7_swap 38 = .ok (.getfield 16, 3) := by decide +kernel
theorem dX7_swap_41 : decode cX7_swap 41 = .ok (.iload_n 2, 1) := by decide +kernel
theorem dX7_swap_42 : decode cX7_swap 42 = .ok (.iaload, 1) := by decide +kernel
theorem dX7_swap_43 : decode cX7_swap 43 = .ok (.istore 4, 2) := by decide +kernel
theorem dX7_swap_45 : decode cX7_swap 45 = .ok (.aload_n 0, 1) := by decide +kernel
theorem dX7_swap_46 : decode cX7_swap 46 = .ok (.getfield 19, 3) := by decide +kernel
theorem dX7_swap_49 : decode cX7_swap 49 = .ok (.iload_n 2, 1) := by decide +kernel
theorem dX7_swap_50 : decode cX7_swap 50 = .ok (.iaload, 1) := by decide +kernel
theorem dX7_swap_51 : decode cX7_swap 51 = .ok (.istore 5, 2) := by decide +kernel
theorem dX7_swap_53 : decode cX7_swap 53 = .ok (.aload_n 0, 1) := by decide +kernel
theorem dX7_swap_54 : decode cX7_swap 54 = .ok (.getfield 13, 3) := by decide +kernel
theorem dX7_swap_57 : decode cX7_swap 57 = .ok (.iload_n 2, 1) := by decide +kernel
theorem dX7_swap_58 : decode cX7_swap 58 = .ok (.aload_n 0, 1) := by decide +kernel
theorem dX7_swap_59 : decode cX7_swap 59 = .ok (.getfield 32, 3) := by decide +kernel
theorem dX7_swap_62 : decode cX7_swap 62 = .ok (.iload_n 2, 1) := by decide +kernel
theorem dX7_swap_63 : decode cX7_swap 63 = .ok (.iaload, 1) := by decide +kernel
theorem dX7_swap_64 : decode cX7_swap 64 = .ok (.iastore, 1) := by decide +kernel
theorem dX7_swap_65 : decode cX7_swap 65 = .ok (.aload_n 0, 1) := by decide +kernel
theorem dX7_swap_66 : decode cX7_swap 66 = .ok (.getfield 16, 3) := by decide +kernel
theorem dX7_swap_69 : decode cX7_swap 69 = .ok (.iload_n 2, 1) := by decide +kernel
theorem dX7_swap_70 : decode cX7_swap 70 = .ok (.aload_n 0, 1) := by decide +kernel
theorem dX7_swap_71 : decode cX7_swap 71 = .ok (.getfield 35, 3) := by decide +kernel
theorem dX7_swap_74 : decode cX7_swap 74 = .ok (.iload_n 2, 1) := by decide +kernel
theorem dX7_swap_75 : decode cX7_swap 75 = .ok (.iaload, 1) := by decide +kernel
theorem dX7_swap_76 : decode cX7_swap 76 = .ok (.iastore, 1) := by decide +kernel
theorem dX7_swap_77 : decode cX7_swap 77 = .ok (.aload_n 0, 1) := by decide +kernel
theorem dX7_swap_78 : decode cX7_swap 78 = .ok (.getfield 19, 3) := by decide +kernel
theorem dX7_swap_81 : decode cX7_swap 81 = .ok (.iload_n 2, 1) := by decide +kernel
theorem dX7_swap_82 : decode cX7_swap 82 = .ok (.aload_n 0, 1) := by decide +kernel
theorem dX7_swap_83 : decode cX7_swap 83 = .ok (.getfield 38, 3) := by decide +kernel
theorem dX7_swap_86 : decode cX7_swap 86 = .ok (.iload_n 2, 1) := by decide +kernel
theorem dX7_swap_87 : decode cX7_swap 87 = .ok (.iaload, 1) := by decide +kernel
theorem dX7_swap_88 : decode cX7_swap 88 = .ok (.iastore, 1) := by decide +kernel
theorem dX7_swap_89 : decode cX7_swap 89 = .ok (.aload_n 0, 1) := by decide +kernel
theorem dX7_swap_90 : decode cX7_swap 90 = .ok (.getfield 32, 3) := by decide +kernel
theorem dX7_swap_93 : decode cX7_swap 93 = .ok (.iload_n 2, 1) := by decide +kernel
theorem dX7_swap_94 : decode cX7_swap 94 = .ok (.iload_n 3, 1) := by decide +kernel
theorem dX7_swap_95 : decode cX7_swap 95 = .ok (.iastore, 1) := by decide +kernel
theorem dX7_swap_96 : decode cX7_swap 96 = .ok (.aload_n 0, 1) := by decide +kernel
theorem dX7_swap_97 : decode cX7_swap 97 = .ok (.getfield 35, 3) := by decide +kernel
theorem dX7_swap_100 : decode cX7_swap 100 = .ok (.iload_n 2, 1) := by decide +kernel
theorem dX7_swap_101 : decode cX7_swap 101 = .ok (.iload 4, 2) := by decide +kernel
theorem dX7_swap_103 : decode cX7_swap 103 = .ok (.iastore, 1) := by decide +kernel
theorem dX7_swap_104 : decode cX7_swap 104 = .ok (.aload_n 0, 1) := by decide +kernel
theorem dX7_swap_105 : decode cX7_swap 105 = .ok (.getfield 38, 3) := by decide +kernel
theorem dX7_swap_108 : decode cX7_swap 108 = .ok (.iload_n 2, 1) := by decide +kernel
theorem dX7_swap_109 : decode cX7_swap 109 = .ok (.iload 5, 2) := by decide +kernel
theorem dX7_swap_111 : decode cX7_swap 111 = .ok (.iastore, 1) := by decide +kernel
theorem dX7_swap_112 : decode cX7_swap 112 = .ok (.iinc 2 1, 3) := by decide +kernel
theorem dX7_swap_115 : decode cX7_swap 115 = .ok (.goto (-90), 3) := by decide +kernel
theorem dX7_swap_118 : decode cX7_swap 118 = .ok (.aload_n 0, 1) := by decide +kernel
theorem dX7_swap_119 : decode cX7_swap 119 = .ok (.getfield 134, 3) := by decide +kernel
theorem dX7_swap_122 : decode cX7_swap 122 = .ok (.istore_n 2, 1) := by decide +kernel
theorem dX7_swap_123 : decode cX7_swap 123 = .ok (.aload_n 0, 1) := by decide +kernel
theorem dX7_swap_124 : decode cX7_swap 124 = .ok (.aload_n 0, 1) := by decide +kernel
theorem dX7_swap_125 : decode cX7_swap 125 = .ok (.getfield 93, 3) := by decide +kernel
theorem dX7_swap_128 : decode cX7_swap 128 = .ok (.putfield 134, 3) := by decide +kernel
theorem dX7_swap_131 : decode cX7_swap 131 = .ok (.aload_n 0, 1) := by decide +kernel
theorem dX7_swap_132 : decode cX7_swap 132 = .ok (.iload_n 2, 1) := by decide +kernel
theorem dX7_swap_133 : decode cX7_swap 133 = .ok (.putfield 93, 3) := by decide +kernel
theorem dX7_swap_136 : decode cX7_swap 136 = .ok (.aload_n 0, 1) := by decide +kernel
theorem dX7_swap_137 : decode cX7_swap 137 = .ok (.invokevirtual 148, 3) := by decide +kernel
theorem dX7_swap_140 : decode cX7_swap 140 = .ok (.return_, 1) := by decide +kernel
set_option maxRecDepth 20000 in
theorem ggX7_compile_X7_reads : GoodIn wsX7_compile wsX7_reads := goodIn_r _ [14, 4, 15, 16, 17, 18, 7, 19, 20, 21, 22, 23, 24, 13, 25, 26, 27, 28, 29, 30, 31, 32, 33, 34, 35, 36, 37, 38, 39, 40, 41, 42, 43, 44, 45, 46, 47, 48, 49, 50, 79, 80, 81, 82, 83, 84, 85, 86, 87, 88, 89, 90, 91, 92, 93, 94, 95, 96, 97, 98, 99, 100, 101, 102, 103, 104, 105, 106, 107, 108, 109, 110, 111, 112, 113, 114, 115, 116, 117, 118, 119, 120, 121, 122] (by decide +kernel) (by decide +kernel)
set_option maxRecDepth 20000 in
theorem gX7_compile_X7_reads : GoodIn wsX7_compile (wsV RX7 154 RX7 yX7_reads wsX7_reads) := goodIn_app (goodIn_of _ (by decide +kernel)) ggX7_compile_X7_reads
set_option maxRecDepth 20000 in
theorem ggX7_compile_X7_swap : GoodIn wsX7_compile wsX7_swap := goodIn_r _ [54, 55, 15, 56, 57, 58, 45, 46, 20, 59, 60, 61, 13, 62, 5, 63, 64, 65, 66, 67, 68, 69, 70, 71, 72, 73, 74, 75, 76, 77, 78, 79, 80, 81, 82, 83, 84, 85, 86, 87, 88, 89, 90, 91, 92, 93, 94, 95, 96, 97, 98, 99, 100, 101, 102, 103, 104, 105, 106, 107, 108, 109, 110, 111, 112, 113, 114, 115, 116, 117, 118, 119, 120, 121, 122] (by decide +kernel) (by decide +kernel)
set_option maxRecDepth 20000 in
theorem gX7_compile_X7_swap : GoodIn wsX7_compile (wsV RX7 158 RX7 yX7_swap wsX7_swap) := goodIn_app (goodIn_of _ (by decide +kernel)) ggX7_compile_X7_swap
set_option maxRecDepth 20000 in
theorem ggX7_compile_X7_skip : GoodIn wsX7_compile wsX7_skip := goodIn_r _ [25, 4, 26, 27, 28, 13, 29, 7, 30, 79, 80, 81, 82, 83, 84, 85, 86, 87, 88, 89, 90, 91, 92, 93, 94, 95, 96, 97, 98, 99, 100, 101, 102, 103, 104, 105, 106, 107, 108, 109, 110, 111, 112, 113, 114, 115, 116, 117, 118, 119, 120, 121, 122] (by decide +kernel) (by decide +kernel)
set_option maxRecDepth 20000 in
theorem gX7_compile_X7_skip : GoodIn wsX7_compile (wsV RX7 111 RX7 yX7_skip wsX7_skip) := goodIn_app (goodIn_of _ (by decide +kernel)) ggX7_compile_X7_skip
theorem dX7_compile_0 : decode cX7_compile 0 = .ok (.aload_n 0, 1) := by decide +kernel
theorem dX7_compile_1 : decode cX7_compile 1 = .ok (.iconst 0, 1) := by decide +kernel
theorem dX7_compile_2 : decode cX7_compile 2 = .ok (.putfield 74, 3) := by decide +kernel
theorem dX7_compile_5 : decode cX7_compile 5 = .ok (.aload_n 0, 1) := by decide +kernel
theorem dX7_compile_6 : decode cX7_compile 6 = .ok (.getfield 151, 3) := by decide +kernel
theorem dX7_compile_9 : decode cX7_compile 9 = .ok (.ifCond .ne 10, 3) := by decide +kernel
theorem dX7_compile_12 : decode cX7_compile 12 = .ok (.aload_n 0, 1) := by decide +kernel
theorem dX7_compile_13 : decode cX7_compile 13 = .ok (.getfield 47, 3) := by decide +kernel
theorem dX7_compile_16 : decode cX7_compile 16 = .ok (.ifCond .ne 5, 3) := by decide +kernel
theorem dX7_compile_19 : decode cX7_compile 19 = .ok (.iconst (-1), 1) := by decide +kernel
theorem dX7_compile_20 : decode cX7_compile 20 = .ok (.ireturn, 1) := by decide +kernel
theorem dX7_compile_21 : decode cX7_compile 21 = .ok (.aload_n 0, 1) := by decide +kernel
theorem dX7_compile_22 : decode cX7_compile 22 = .ok (.invokevirtual 154, 3) := by decide +kernel
theorem dX7_compile_25 : decode cX7_compile 25 = .ok (.istore_n 1, 1) := by decide +kernel
theorem dX7_compile_26 : decode cX7_compile 26 = .ok (.aload_n 0, 1) := by decide +kernel
theorem dX7_compile_27 : decode cX7_compile 27 = .ok (.getfield 86, 3) := by decide +kernel
theorem dX7_compile_30 : decode cX7_compile 30 = .ok (.istore_n 2, 1) := by decide +kernel
theorem dX7_compile_31 : decode cX7_compile 31 = .ok (.iload_n 1, 1) := by decide +kernel
theorem dX7_compile_32 : decode cX7_compile 32 = .ok (.ifCond .eq 55, 3) := by decide +kernel
theorem dX7_compile_35 : decode cX7_compile 35 = .ok (.aload_n 0, 1) := by decide +kernel
theorem dX7_compile_36 : decode cX7_compile 36 = .ok (.invokevirtual 158, 3) := by decide +kernel
theorem dX7_compile_39 : decode cX7_compile 39 = .ok (.aload_n 0, 1) := by decide +kernel
theorem dX7_compile_40 : decode cX7_compile 40 = .ok (.getfield 130, 3) := by decide +kernel
theorem dX7_compile_43 : decode cX7_compile 43 = .ok (.lconst 0, 1) := by decide +kernel
theorem dX7_compile_44 : decode cX7_compile 44 = .ok (.lcmp, 1) := by decide +kernel
theorem dX7_compile_45 : decode cX7_compile 45 = .ok (.ifCond .le 18, 3) := by decide +kernel
theorem dX7_compile_48 : decode cX7_compile 48 = .ok (.aload_n 0, 1) := by decide +kernel
theorem dX7_compile_49 : decode cX7_compile 49 = .ok (.getfield 130, 3) := by decide +kernel
theorem dX7_compile_52 : decode cX7_compile 52 = .ok (.ldc2_w 161, 3) := by decide +kernel
theorem dX7_compile_55 : decode cX7_compile 55 = .ok (.lcmp, 1) := by decide +kernel
theorem dX7_compile_56 : decode cX7_compile 56 = .ok (.ifCond .gt 7, 3) := by decide +kernel
theorem dX7_compile_59 : decode cX7_compile 59 = .ok (.iconst 1, 1) := by decide +kernel
theorem dX7_compile_60 : decode cX7_compile 60 = .ok (.goto 4, 3) := by decide +kernel
theorem dX7_compile_63 : decode cX7_compile 63 = .ok (.iconst 0, 1) := by decide +kernel
theorem dX7_compile_64 : decode cX7_compile 64 = .ok (.istore_n 1, 1) := by decide +kernel
theorem dX7_compile_65 : decode cX7_compile 65 = .ok (.aload_n 0, 1) := by decide +kernel
theorem dX7_compile_66 : decode cX7_compile 66 = .ok (.iconst 0, 1) := by decide +kernel
theorem dX7_compile_67 : decode cX7_compile 67 = .ok (.putfield 86, 3) := by decide +kernel
theorem dX7_compile_70 : decode cX7_compile 70 = .ok (.aload_n 0, 1) := by decide +kernel
theorem dX7_compile_71 : decode cX7_compile 71 = .ok (.invokevirtual 111, 3) := by decide +kernel
theorem dX7_compile_74 : decode cX7_compile 74 = .ok (.aload_n 0, 1) := by decide +kernel
theorem dX7_compile_75 : decode cX7_compile 75 = .ok (.getfield 86, 3) := by decide +kernel
theorem dX7_compile_78 : decode cX7_compile 78 = .ok (.istore_n 2, 1) := by decide +kernel
theorem dX7_compile_79 : decode cX7_compile 79 = .ok (.iload_n 1, 1) := by decide +kernel
theorem dX7_compile_80 : decode cX7_compile 80 = .ok (.ifCond .ne 7, 3) := by decide +kernel
theorem dX7_compile_83 : decode cX7_compile 83 = .ok (.aload_n 0, 1) := by decide +kernel
theorem dX7_compile_84 : decode cX7_compile 84 = .ok (.invokevirtual 158, 3) := by decide +kernel
theorem dX7_compile_87 : decode cX7_compile 87 = .ok (.aload_n 0, 1) := by decide +kernel
theorem dX7_compile_88 : decode cX7_compile 88 = .ok (.iconst 0, 1) := by decide +kernel
theorem dX7_compile_89 : decode cX7_compile 89 = .ok (.putfield 77, 3) := by decide +kernel
theorem dX7_compile_92 : decode cX7_compile 92 = .ok (.iload_n 1, 1) := by decide +kernel
theorem dX7_compile_93 : decode cX7_compile 93 = .ok (.ifCond .ne 7, 3) := by decide +kernel
theorem dX7_compile_96 : decode cX7_compile 96 = .ok (.iload_n 2, 1) := by decide +kernel
theorem dX7_compile_97 : decode cX7_compile 97 = .ok (.iconst 1, 1) := by decide +kernel
theorem dX7_compile_98 : decode cX7_compile 98 = .ok (.iadd, 1) := by decide +kernel
theorem dX7_compile_99 : decode cX7_compile 99 = .ok (.ireturn, 1) := by decide +kernel
theorem dX7_compile_100 : decode cX7_compile 100 = .ok (.aload_n 0, 1) := by decide +kernel
theorem dX7_compile_101 : decode cX7_compile 101 = .ok (.lconst 0, 1) := by decide +kernel
theorem dX7_compile_102 : decode cX7_compile 102 = .ok (.putfield 163, 3) := by decide +kernel
theorem dX7_compile_105 : decode cX7_compile 105 = .ok (.aload_n 0, 1) := by decide +kernel
theorem dX7_compile_106 : decode cX7_compile 106 = .ok (.getfield 64, 3) := by decide +kernel
theorem dX7_compile_109 : decode cX7_compile 109 = .ok (.iconst 0, 1) := by decide +kernel
theorem dX7_compile_110 : decode cX7_compile 110 = .ok (.iconst 0, 1) := by decide +kernel
theorem dX7_compile_111 : decode cX7_compile 111 = .ok (.bastore, 1) := by decide +kernel
theorem dX7_compile_112 : decode cX7_compile 112 = .ok (.aload_n 0, 1) := by decide +kernel
theorem dX7_compile_113 : decode cX7_compile 113 = .ok (.getfield 64, 3) := by decide +kernel
theorem dX7_compile_116 : decode cX7_compile 116 = .ok (.iconst 1, 1) := by decide +kernel
theorem dX7_compile_117 : decode cX7_compile 117 = .ok (.iconst 0, 1) := by decide +kernel
theorem dX7_compile_118 : decode cX7_compile 118 = .ok (.bastore, 1) := by decide +kernel
theorem dX7_compile_119 : decode cX7_compile 119 = .ok (.iconst 0, 1) := by decide +kernel
theorem dX7_compile_120 : decode cX7_compile 120 = .ok (.ireturn, 1) := by decide +kernel
theorem dX7_length_0 : decode cX7_length 0 = .ok (.aload_n 0, 1) := by decide +kernel
theorem dX7_length_1 : decode cX7_length 1 = .ok (.iconst 0, 1) := by decide +kernel
theorem dX7_length_2 : decode cX7_length 2 = .ok (.putfield 74, 3) := by decide +kernel
theorem dX7_length_5 : decode cX7_length 5 = .ok (.aload_n 0, 1) := by decide +kernel
theorem dX7_length_6 : decode cX7_length 6 = .ok (.getfield 130, 3) := by decide +kernel
theorem dX7_length_9 : decode cX7_length 9 = .ok (.lreturn, 1) := by decide +kernel
set_option maxRecDepth 20000 in
theorem ggX7_look_X7_isBracket : GoodIn wsX7_look wsX7_isBracket := goodIn_r _ [12, 1, 18, 19, 20, 21, 22, 23, 24, 25, 26, 27, 28, 29, 30, 31, 32, 33, 34, 35, 36, 37, 38, 39, 40, 41, 42, 43, 44, 45, 46, 47, 48, 49, 50, 51, 52, 53, 54, 55, 56, 57, 58, 59, 60, 61] (by decide +kernel) (by decide +kernel)
set_option maxRecDepth 20000 in
theorem gX7_look_X7_isBracket : GoodIn wsX7_look (wsV RX7 137 RX7 yX7_isBracket wsX7_isBracket) := goodIn_app (goodIn_of _ (by decide +kernel)) ggX7_look_X7_isBracket
set_option maxRecDepth 20000 in
theorem ggX7_look_X7_times : GoodIn wsX7_look wsX7_times := goodIn_r _ [16, 1, 7, 6, 2, 17, 18, 19, 20, 21, 22, 23, 24, 25, 26, 27, 28, 29, 30, 31, 32, 33, 34, 35, 36, 37, 38, 39, 40, 41, 42, 43, 44, 45, 46, 47, 48, 49, 50, 51, 52, 53, 54, 55, 56, 57, 58, 59, 60, 61] (by decide +kernel) (by decide +kernel)
set_option maxRecDepth 20000 in
theorem gX7_look_X7_times : GoodIn wsX7_look (wsV RX7 140 RX7 yX7_times wsX7_times) := goodIn_app (goodIn_of _ (by decide +kernel)) ggX7_look_X7_times
theorem dX7_look_0 : decode cX7_look 0 = .ok (.iconst 0, 1) := by decide +kernel
theorem dX7_look_1 : decode cX7_look 1 = .ok (.istore 4, 2) := by decide +kernel
theorem dX7_look_3 : decode cX7_look 3 = .ok (.bipush 100, 2) := by decide +kernel
theorem dX7_look_5 : decode cX7_look 5 = .ok (.istore 5, 2) := by decide +kernel
theorem dX7_look_7 : decode cX7_look 7 = .ok (.lload_n 1, 1) := by decide +kernel
theorem dX7_look_8 : decode cX7_look 8 = .ok (.lstore 6, 2) := by decide +kernel
theorem dX7_look_10 : decode cX7_look 10 = .ok (.iconst 0, 1) := by decide +kernel
theorem dX7_look_11 : decode cX7_look 11 = .ok (.istore 8, 2) := by decide +kernel
theorem dX7_look_13 : decode cX7_look 13 = .ok (.aload_n 0, 1) := by decide +kernel
theorem dX7_look_14 : decode cX7_look 14 = .ok (.getfield 13, 3) := by decide +kernel
theorem dX7_look_17 : decode cX7_look 17 = .ok (.iload 8, 2) := by decide +kernel
theorem dX7_look_19 : decode cX7_look 19 = .ok (.iaload, 1) := by decide +kernel
theorem dX7_look_20 : decode cX7_look 20 = .ok (.ifCond .ne 10, 3) := by decide +kernel
theorem dX7_look_23 : decode cX7_look 23 = .ok (.lload 6, 2) := by decide +kernel
theorem dX7_look_25 : decode cX7_look 25 = .ok (.lconst 0, 1) := by decide +kernel
theorem dX7_look_26 : decode cX7_look 26 = .ok (.lcmp, 1) := by decide +kernel
theorem dX7_look_27 : decode cX7_look 27 = .ok (.ifCond .le 248, 3) := by decide +kernel
theorem dX7_look_30 : decode cX7_look 30 = .ok (.aload_n 0, 1) := by decide +kernel
theorem dX7_look_31 : decode cX7_look 31 = .ok (.iload 8, 2) := by decide +kernel
theorem dX7_look_33 : decode cX7_look 33 = .ok (.invokevirtual 137, 3) := by decide +kernel
theorem dX7_look_36 : decode cX7_look 36 = .ok (.ifCond .eq 19, 3) := by decide +kernel
theorem dX7_look_39 : decode cX7_look 39 = .ok (.lload 6, 2) := by decide +kernel
theorem dX7_look_41 : decode cX7_look 41 = .ok (.aload_n 0, 1) := by decide +kernel
theorem dX7_look_42 : decode cX7_look 42 = .ok (.iload 8, 2) := by decide +kernel
theorem dX7_look_44 : decode cX7_look 44 = .ok (.invokevirtual 140, 3) := by decide +kernel
theorem dX7_look_47 : decode cX7_look 47 = .ok (.lcmp, 1) := by decide +kernel
theorem dX7_look_48 : decode cX7_look 48 = .ok (.ifCond .ge 7, 3) := by decide +kernel
theorem dX7_look_51 : decode cX7_look 51 = .ok (.iconst 1, 1) := by decide +kernel
theorem dX7_look_52 : decode cX7_look 52 = .ok (.goto 4, 3) := by decide +kernel
theorem dX7_look_55 : decode cX7_look 55 = .ok (.iconst 0, 1) := by decide +kernel
theorem dX7_look_56 : decode cX7_look 56 = .ok (.istore 9, 2) := by decide +kernel
theorem dX7_look_58 : decode cX7_look 58 = .ok (.iload 9, 2) := by decide +kernel
theorem dX7_look_60 : decode cX7_look 60 = .ok (.ifCond .eq 31, 3) := by decide +kernel
theorem dX7_look_63 : decode cX7_look 63 = .ok (.aload_n 0, 1) := by decide +kernel
theorem dX7_look_64 : decode cX7_look 64 = .ok (.getfield 13, 3) := by decide +kernel
theorem dX7_look_67 : decode cX7_look 67 = .ok (.iload 8, 2) := by decide +kernel
theorem dX7_look_69 : decode cX7_look 69 = .ok (.iaload, 1) := by decide +kernel
theorem dX7_look_70 : decode cX7_look 70 = .ok (.iconst 3, 1) := by decide +kernel
theorem dX7_look_71 : decode cX7_look 71 = .ok (.if_icmp .ne 20, 3) := by decide +kernel
theorem dX7_look_74 : decode cX7_look 74 = .ok (.lload 6, 2) := by decide +kernel
theorem dX7_look_76 : decode cX7_look 76 = .ok (.aload_n 0, 1) := by decide +kernel
theorem dX7_look_77 : decode cX7_look 77 = .ok (.getfield 28, 3) := by decide +kernel
theorem dX7_look_80 : decode cX7_look 80 = .ok (.iload 8, 2) := by decide +kernel
theorem dX7_look_82 : decode cX7_look 82 = .ok (.laload, 1) := by decide +kernel
theorem dX7_look_83 : decode cX7_look 83 = .ok (.lcmp, 1) := by decide +kernel
theorem dX7_look_84 : decode cX7_look 84 = .ok (.ifCond .lt 7, 3) := by decide +kernel
theorem dX7_look_87 : decode cX7_look 87 = .ok (.iconst 1, 1) := by decide +kernel
theorem dX7_look_88 : decode cX7_look 88 = .ok (.goto 4, 3) := by decide +kernel
theorem dX7_look_91 : decode cX7_look 91 = .ok (.iconst 0, 1) := by decide +kernel
theorem dX7_look_92 : decode cX7_look 92 = .ok (.istore 10, 2) := by decide +kernel
theorem dX7_look_94 : decode cX7_look 94 = .ok (.iload 9, 2) := by decide +kernel
theorem dX7_look_96 : decode cX7_look 96 = .ok (.ifCond .eq 8, 3) := by decide +kernel
theorem dX7_look_99 : decode cX7_look 99 = .ok (.iload 10, 2) := by decide +kernel
theorem dX7_look_101 : decode cX7_look 101 = .ok (.ifCond .eq 53, 3) := by decide +kernel
theorem dX7_look_104 : decode cX7_look 104 = .ok (.aload_n 0, 1) := by decide +kernel
theorem dX7_look_105 : decode cX7_look 105 = .ok (.getfield 22, 3) := by decide +kernel
theorem dX7_look_108 : decode cX7_look 108 = .ok (.iload 8, 2) := by decide +kernel
theorem dX7_look_110 : decode cX7_look 110 = .ok (.iaload, 1) := by decide +kernel
theorem dX7_look_111 : decode cX7_look 111 = .ok (.iconst (-1), 1) := by decide +kernel
theorem dX7_look_112 : decode cX7_look 112 = .ok (.if_icmp .ne 8, 3) := by decide +kernel
theorem dX7_look_115 : decode cX7_look 115 = .ok (.iload 4, 2) := by decide +kernel
theorem dX7_look_117 : decode cX7_look 117 = .ok (.goto 10, 3) := by decide +kernel
theorem dX7_look_120 : decode cX7_look 120 = .ok (.aload_n 0, 1) := by decide +kernel
theorem dX7_look_121 : decode cX7_look 121 = .ok (.getfield 22, 3) := by decide +kernel
theorem dX7_look_124 : decode cX7_look 124 = .ok (.iload 8, 2) := by decide +kernel
theorem dX7_look_126 : decode cX7_look 126 = .ok (.iaload, 1) := by decide +kernel
theorem dX7_look_127 : decode cX7_look 127 = .ok (.istore 4, 2) := by decide +kernel
theorem dX7_look_129 : decode cX7_look 129 = .ok (.aload_n 0, 1) := by decide +kernel
theorem dX7_look_130 : decode cX7_look 130 = .ok (.getfield 25, 3) := by decide +kernel
theorem dX7_look_133 : decode cX7_look 133 = .ok (.iload 8, 2) := by decide +kernel
theorem dX7_look_135 : decode cX7_look 135 = .ok (.iaload, 1) := by decide +kernel
theorem dX7_look_136 : decode cX7_look 136 = .ok (.iconst (-1), 1) := by decide +kernel
theorem dX7_look_137 : decode cX7_look 137 = .ok (.if_icmp .ne 8, 3) := by decide +kernel
theorem dX7_look_140 : decode cX7_look 140 = .ok (.iload 5, 2) := by decide +kernel
theorem dX7_look_142 : decode cX7_look 142 = .ok (.goto 10, 3) := by decide +kernel
theorem dX7_look_145 : decode cX7_look 145 = .ok (.aload_n 0, 1) := by decide +kernel
theorem dX7_look_146 : decode cX7_look 146 = .ok (.getfield 25, 3) := by decide +kernel
theorem dX7_look_149 : decode cX7_look 149 = .ok (.iload 8, 2) := by decide +kernel
theorem dX7_look_151 : decode cX7_look 151 = .ok (.iaload, 1) := by decide +kernel
theorem dX7_look_152 : decode cX7_look 152 = .ok (.istore 5, 2) := by decide +kernel
theorem dX7_look_154 : decode cX7_look 154 = .ok (.iload 9, 2) := by decide +kernel
theorem dX7_look_156 : decode cX7_look 156 = .ok (.ifCond .ne 53, 3) := by decide +kernel
theorem dX7_look_159 : decode cX7_look 159 = .ok (.lload 6, 2) := by decide +kernel
theorem dX7_look_161 : decode cX7_look 161 = .ok (.aload_n 0, 1) := by decide +kernel
theorem dX7_look_162 : decode cX7_look 162 = .ok (.iload 8, 2) := by decide +kernel
theorem dX7_look_164 : decode cX7_look 164 = .ok (.invokevirtual 137, 3) := by decide +kernel
theorem dX7_look_167 : decode cX7_look 167 = .ok (.ifCond .eq 12, 3) := by decide +kernel
theorem dX7_look_170 : decode cX7_look 170 = .ok (.aload_n 0, 1) := by decide +kernel
theorem dX7_look_171 : decode cX7_look 171 = .ok (.iload 8, 2) := by decide +kernel
theorem dX7_look_173 : decode cX7_look 173 = .ok (.invokevirtual 140, 3) := by decide +kernel
theorem dX7_look_176 : decode cX7_look 176 = .ok (.goto 18, 3) := by decide +kernel
theorem dX7_look_179 : decode cX7_look 179 = .ok (.aload_n 0, 1) := by decide +kernel
theorem dX7_look_180 : decode cX7_look 180 = .ok (.getfield 13, 3) := by decide +kernel
theorem dX7_look_183 : decode cX7_look 183 = .ok (.iload 8, 2) := by decide +kernel
theorem dX7_look_185 : decode cX7_look 185 = .ok (.iaload, 1) := by decide +kernel
theorem dX7_look_186 : decode cX7_look 186 = .ok (.ifCond .ne 7, 3) := by decide +kernel
theorem dX7_look_189 : decode cX7_look 189 = .ok (.lconst 1, 1) := by decide +kernel
theorem dX7_look_190 : decode cX7_look 190 = .ok (.goto 4, 3) := by decide +kernel
theorem dX7_look_193 : decode cX7_look 193 = .ok (.lconst 0, 1) := by decide +kernel
theorem dX7_look_194 : decode cX7_look 194 = .ok (.lsub, 1) := by decide +kernel
theorem dX7_look_195 : decode cX7_look 195 = .ok (.lstore 6, 2) := by decide +kernel
theorem dX7_look_197 : decode cX7_look 197 = .ok (.aload_n 0, 1) := by decide +kernel
theorem dX7_look_198 : decode cX7_look 198 = .ok (.getfield 19, 3) := by decide +kernel
theorem dX7_look_201 : decode cX7_look 201 = .ok (.iload 8, 2) := by decide +kernel
theorem dX7_look_203 : decode cX7_look 203 = .ok (.iaload, 1) := by decide +kernel
theorem dX7_look_204 : decode cX7_look 204 = .ok (.istore 8, 2) := by decide +kernel
theorem dX7_look_206 : decode cX7_look 206 = .ok (.goto 66, 3) := by decide +kernel
theorem dX7_look_209 : decode cX7_look 209 = .ok (.aload_n 0, 1) := by decide +kernel
theorem dX7_look_210 : decode cX7_look 210 = .ok (.getfield 13, 3) := by decide +kernel
theorem dX7_look_213 : decode cX7_look 213 = .ok (.iload 8, 2) := by decide +kernel
theorem dX7_look_215 : decode cX7_look 215 = .ok (.iaload, 1) := by decide +kernel
theorem dX7_look_216 : decode cX7_look 216 = .ok (.iconst 3, 1) := by decide +kernel
theorem dX7_look_217 : decode cX7_look 217 = .ok (.if_icmp .ne 16, 3) := by decide +kernel
theorem dX7_look_220 : decode cX7_look 220 = .ok (.lload 6, 2) := by decide +kernel
theorem dX7_look_222 : decode cX7_look 222 = .ok (.aload_n 0, 1) := by decide +kernel
theorem dX7_look_223 : decode cX7_look 223 = .ok (.getfield 28, 3) := by decide +kernel
theorem dX7_look_226 : decode cX7_look 226 = .ok (.iload 8, 2) := by decide +kernel
theorem dX7_look_228 : decode cX7_look 228 = .ok (.laload, 1) := by decide +kernel
theorem dX7_look_229 : decode cX7_look 229 = .ok (.lrem, 1) := by decide +kernel
theorem dX7_look_230 : decode cX7_look 230 = .ok (.goto 37, 3) := by decide +kernel
theorem dX7_look_233 : decode cX7_look 233 = .ok (.lload 6, 2) := by decide +kernel
theorem dX7_look_235 : decode cX7_look 235 = .ok (.aload_n 0, 1) := by decide +kernel
theorem dX7_look_236 : decode cX7_look 236 = .ok (.getfield 28, 3) := by decide +kernel
theorem dX7_look_239 : decode cX7_look 239 = .ok (.iload 8, 2) := by decide +kernel
theorem dX7_look_241 : decode cX7_look 241 = .ok (.laload, 1) := by decide +kernel
theorem dX7_look_242 : decode cX7_look 242 = .ok (.lcmp, 1) := by decide +kernel
theorem dX7_look_243 : decode cX7_look 243 = .ok (.ifCond .ge 8, 3) := by decide +kernel
theorem dX7_look_246 : decode cX7_look 246 = .ok (.lload 6, 2) := by decide +kernel
theorem dX7_look_248 : decode cX7_look 248 = .ok (.goto 19, 3) := by decide +kernel
theorem dX7_look_251 : decode cX7_look 251 = .ok (.ldc2_w 128, 3) := by decide +kernel
theorem dX7_look_254 : decode cX7_look 254 = .ok (.aload_n 0, 1) := by decide +kernel
theorem dX7_look_255 : decode cX7_look 255 = .ok (.getfield 28, 3) := by decide +kernel
theorem dX7_look_258 : decode cX7_look 258 = .ok (.iload 8, 2) := by decide +kernel
theorem dX7_look_260 : decode cX7_look 260 = .ok (.laload, 1) := by decide +kernel
theorem dX7_look_261 : decode cX7_look 261 = .ok (.lmul, 1) := by decide +kernel
theorem dX7_look_262 : decode cX7_look 262 = .ok (.lconst 1, 1) := by decide +kernel
theorem dX7_look_263 : decode cX7_look 263 = .ok (.lsub, 1) := by decide +kernel
theorem dX7_look_264 : decode cX7_look 264 = .ok (.lload 6, 2) := by decide +kernel
theorem dX7_look_266 : decode cX7_look 266 = .ok (.lsub, 1) := by decide +kernel
theorem dX7_look_267 : decode cX7_look 267 = .ok (.lstore 6, 2) := by decide +kernel
theorem dX7_look_269 : decode cX7_look 269 = .ok (.iinc 8 1, 3) := by decide +kernel
theorem dX7_look_272 : decode cX7_look 272 = .ok (.goto (-259), 3) := by decide +kernel
theorem dX7_look_275 : decode cX7_look 275 = .ok (.iload_n 3, 1) := by decide +kernel
theorem dX7_look_276 : decode cX7_look 276 = .ok (.ifCond .ne 13, 3) := by decide +kernel
theorem dX7_look_279 : decode cX7_look 279 = .ok (.aload_n 0, 1) := by decide +kernel
theorem dX7_look_280 : decode cX7_look 280 = .ok (.getfield 16, 3) := by decide +kernel
theorem dX7_look_283 : decode cX7_look 283 = .ok (.iload 8, 2) := by decide +kernel
theorem dX7_look_285 : decode cX7_look 285 = .ok (.iaload, 1) := by decide +kernel
theorem dX7_look_286 : decode cX7_look 286 = .ok (.goto 15, 3) := by decide +kernel
theorem dX7_look_289 : decode cX7_look 289 = .ok (.iload_n 3, 1) := by decide +kernel
theorem dX7_look_290 : decode cX7_look 290 = .ok (.iconst 1, 1) := by decide +kernel
theorem dX7_look_291 : decode cX7_look 291 = .ok (.if_icmp .ne 8, 3) := by decide +kernel
theorem dX7_look_294 : decode cX7_look 294 = .ok (.iload 4, 2) := by decide +kernel
theorem dX7_look_296 : decode cX7_look 296 = .ok (.goto 5, 3) := by decide +kernel
theorem dX7_look_299 : decode cX7_look 299 = .ok (.iload 5, 2) := by decide +kernel
theorem dX7_look_301 : decode cX7_look 301 = .ok (.ireturn, 1) := by decide +kernel
set_option maxRecDepth 20000 in
theorem ggX7_design_X7_look : GoodIn wsX7_design wsX7_look := goodIn_r _ [7, 8, 9, 10, 11, 12, 13, 14, 15, 16, 17, 6, 18, 19, 20, 21, 22, 23, 24, 25, 26, 27, 28, 29, 30, 31, 32, 33, 34, 35, 36, 37, 38, 39, 40, 41, 42, 43, 44, 45, 46, 47, 48, 49, 50, 51, 52, 53, 54, 55, 56, 57, 58, 59, 60, 61, 62, 63, 64, 65, 66, 67] (by decide +kernel) (by decide +kernel)
set_option maxRecDepth 20000 in
theorem gX7_design_X7_look : GoodIn wsX7_design (wsV RX7 166 RX7 yX7_look wsX7_look) := goodIn_app (goodIn_of _ (by decide +kernel)) ggX7_design_X7_look
theorem dX7_design_0 : decode cX7_design 0 = .ok (.aload_n 0, 1) := by decide +kernel
theorem dX7_design_1 : decode cX7_design 1 = .ok (.iconst 0, 1) := by decide +kernel
theorem dX7_design_2 : decode cX7_design 2 = .ok (.putfield 74, 3) := by decide +kernel
theorem dX7_design_5 : decode cX7_design 5 = .ok (.lload_n 1, 1) := by decide +kernel
theorem dX7_design_6 : decode cX7_design 6 = .ok (.lconst 0, 1) := by decide +kernel
theorem dX7_design_7 : decode cX7_design 7 = .ok (.lcmp, 1) := by decide +kernel
theorem dX7_design_8 : decode cX7_design 8 = .ok (.ifCond .lt 21, 3) := by decide +kernel
theorem dX7_design_11 : decode cX7_design 11 = .ok (.lload_n 1, 1) := by decide +kernel
theorem dX7_design_12 : decode cX7_design 12 = .ok (.aload_n 0, 1) := by decide +kernel
theorem dX7_design_13 : decode cX7_design 13 = .ok (.getfield 130, 3) := by decide +kernel
theorem dX7_design_16 : decode cX7_design 16 = .ok (.lcmp, 1) := by decide +kernel
theorem dX7_design_17 : decode cX7_design 17 = .ok (.ifCond .ge 12, 3) := by decide +kernel
theorem dX7_design_20 : decode cX7_design 20 = .ok (.iload_n 3, 1) := by decide +kernel
theorem dX7_design_21 : decode cX7_design 21 = .ok (.ifCond .lt 8, 3) := by decide +kernel
theorem dX7_design_24 : decode cX7_design 24 = .ok (.iload_n 3, 1) := by decide +kernel
theorem dX7_design_25 : decode cX7_design 25 = .ok (.iconst 2, 1) := by decide +kernel
theorem dX7_design_26 : decode cX7_design 26 = .ok (.if_icmp .le 7, 3) := by decide +kernel
theorem dX7_design_29 : decode cX7_design 29 = .ok (.iconst (-1), 1) := by decide +kernel
theorem dX7_design_30 : decode cX7_design 30 = .ok (.goto 9, 3) := by decide +kernel
theorem dX7_design_33 : decode cX7_design 33 = .ok (.aload_n 0, 1) := by decide +kernel
theorem dX7_design_34 : decode cX7_design 34 = .ok (.lload_n 1, 1) := by decide +kernel
theorem dX7_design_35 : decode cX7_design 35 = .ok (.iload_n 3, 1) := by decide +kernel
theorem dX7_design_36 : decode cX7_design 36 = .ok (.invokevirtual 166, 3) := by decide +kernel
theorem dX7_design_39 : decode cX7_design 39 = .ok (.ireturn, 1) := by decide +kernel
theorem dX7_start_0 : decode cX7_start 0 = .ok (.aload_n 0, 1) := by decide +kernel
theorem dX7_start_1 : decode cX7_start 1 = .ok (.iconst 0, 1) := by decide +kernel
theorem dX7_start_2 : decode cX7_start 2 = .ok (.putfield 74, 3) := by decide +kernel
theorem dX7_start_5 : decode cX7_start 5 = .ok (.aload_n 0, 1) := by decide +kernel
theorem dX7_start_6 : decode cX7_start 6 = .ok (.getfield 151, 3) := by decide +kernel
theorem dX7_start_9 : decode cX7_start 9 = .ok (.ifCond .ne 19, 3) := by decide +kernel
theorem dX7_start_12 : decode cX7_start 12 = .ok (.aload_n 0, 1) := by decide +kernel
theorem dX7_start_13 : decode cX7_start 13 = .ok (.getfield 130, 3) := by decide +kernel
theorem dX7_start_16 : decode cX7_start 16 = .ok (.lconst 0, 1) := by decide +kernel
theorem dX7_start_17 : decode cX7_start 17 = .ok (.lcmp, 1) := by decide +kernel
theorem dX7_start_18 : decode cX7_start 18 = .ok (.ifCond .eq 10, 3) := by decide +kernel
theorem dX7_start_21 : decode cX7_start 21 = .ok (.aload_n 0, 1) := by decide +kernel
theorem dX7_start_22 : decode cX7_start 22 = .ok (.getfield 47, 3) := by decide +kernel
theorem dX7_start_25 : decode cX7_start 25 = .ok (.ifCond .ne 5, 3) := by decide +kernel
theorem dX7_start_28 : decode cX7_start 28 = .ok (.iconst 0, 1) := by decide +kernel
theorem dX7_start_29 : decode cX7_start 29 = .ok (.ireturn, 1) := by decide +kernel
theorem dX7_start_30 : decode cX7_start 30 = .ok (.aload_n 0, 1) := by decide +kernel
theorem dX7_start_31 : decode cX7_start 31 = .ok (.iconst 1, 1) := by decide +kernel
theorem dX7_start_32 : decode cX7_start 32 = .ok (.putfield 151, 3) := by decide +kernel
theorem dX7_start_35 : decode cX7_start 35 = .ok (.iconst 1, 1) := by decide +kernel
theorem dX7_start_36 : decode cX7_start 36 = .ok (.ireturn, 1) := by decide +kernel
theorem dX7_brakes_0 : decode cX7_brakes 0 = .ok (.aload_n 0, 1) := by decide +kernel
theorem dX7_brakes_1 : decode cX7_brakes 1 = .ok (.getfield 151, 3) := by decide +kernel
theorem dX7_brakes_4 : decode cX7_brakes 4 = .ok (.iconst 1, 1) := by decide +kernel
theorem dX7_brakes_5 : decode cX7_brakes 5 = .ok (.if_icmp .eq 4, 3) := by decide +kernel
theorem dX7_brakes_8 : decode cX7_brakes 8 = .ok (.return_, 1) := by decide +kernel
theorem dX7_brakes_9 : decode cX7_brakes 9 = .ok (.aload_n 0, 1) := by decide +kernel
theorem dX7_brakes_10 : decode cX7_brakes 10 = .ok (.iconst 2, 1) := by decide +kernel
theorem dX7_brakes_11 : decode cX7_brakes 11 = .ok (.putfield 151, 3) := by decide +kernel
theorem dX7_brakes_14 : decode cX7_brakes 14 = .ok (.aload_n 0, 1) := by decide +kernel
theorem dX7_brakes_15 : decode cX7_brakes 15 = .ok (.aload_n 0, 1) := by decide +kernel
theorem dX7_brakes_16 : decode cX7_brakes 16 = .ok (.getfield 51, 3) := by decide +kernel
theorem dX7_brakes_19 : decode cX7_brakes 19 = .ok (.iconst 2, 1) := by decide +kernel
theorem dX7_brakes_20 : decode cX7_brakes 20 = .ok (.idiv, 1) := by decide +kernel
theorem dX7_brakes_21 : decode cX7_brakes 21 = .ok (.putfield 170, 3) := by decide +kernel
theorem dX7_brakes_24 : decode cX7_brakes 24 = .ok (.aload_n 0, 1) := by decide +kernel
theorem dX7_brakes_25 : decode cX7_brakes 25 = .ok (.dup, 1) := by decide +kernel
theorem dX7_brakes_26 : decode cX7_brakes 26 = .ok (.getfield 173, 3) := by decide +kernel
theorem dX7_brakes_29 : decode cX7_brakes 29 = .ok (.iconst 1, 1) := by decide +kernel
theorem dX7_brakes_30 : decode cX7_brakes 30 = .ok (.iadd, 1) := by decide +kernel
theorem dX7_brakes_31 : decode cX7_brakes 31 = .ok (.putfield 173, 3) := by decide +kernel
theorem dX7_brakes_34 : decode cX7_brakes 34 = .ok (.return_, 1) := by decide +kernel
set_option maxRecDepth 20000 in
theorem ggX7_stop_X7_brakes : GoodIn wsX7_stop wsX7_brakes := goodIn_r _ [7, 2, 8, 9, 10, 11, 12, 13, 14, 15, 16, 17, 18, 19, 20, 21, 22, 23, 24, 25, 26, 27, 28, 29, 30, 31, 32, 33, 34, 35, 36, 37, 38, 39, 40, 41, 42, 43, 44, 45, 46, 47, 48, 49, 50, 51, 52, 53, 54] (by decide +kernel) (by decide +kernel)
set_option maxRecDepth 20000 in
theorem gX7_stop_X7_brakes : GoodIn wsX7_stop (wsV RX7 176 RX7 yX7_brakes wsX7_brakes) := goodIn_app (goodIn_of _ (by decide +kernel)) ggX7_stop_X7_brakes
theorem dX7_stop_0 : decode cX7_stop 0 = .ok (.aload_n 0, 1) := by decide +kernel
theorem dX7_stop_1 : decode cX7_stop 1 = .ok (.iconst 0, 1) := by decide +kernel
theorem dX7_stop_2 : decode cX7_stop 2 = .ok (.putfield 74, 3) := by decide +kernel
theorem dX7_stop_5 : decode cX7_stop 5 = .ok (.aload_n 0, 1) := by decide +kernel
theorem dX7_stop_6 : decode cX7_stop 6 = .ok (.getfield 151, 3) := by decide +kernel
theorem dX7_stop_9 : decode cX7_stop 9 = .ok (.iconst 1, 1) := by decide +kernel
theorem dX7_stop_10 : decode cX7_stop 10 = .ok (.if_icmp .eq 5, 3) := by decide +kernel
theorem dX7_stop_13 : decode cX7_stop 13 = .ok (.iconst 0, 1) := by decide +kernel
theorem dX7_stop_14 : decode cX7_stop 14 = .ok (.ireturn, 1) := by decide +kernel
theorem dX7_stop_15 : decode cX7_stop 15 = .ok (.aload_n 0, 1) := by decide +kernel
theorem dX7_stop_16 : decode cX7_stop 16 = .ok (.invokevirtual 176, 3) := by decide +kernel
theorem dX7_stop_19 : decode cX7_stop 19 = .ok (.iconst 1, 1) := by decide +kernel
theorem dX7_stop_20 : decode cX7_stop 20 = .ok (.ireturn, 1) := by decide +kernel
theorem dX7_record_0 : decode cX7_record 0 = .ok (.aload_n 0, 1) := by decide +kernel
theorem dX7_record_1 : decode cX7_record 1 = .ok (.iconst 1, 1) := by decide +kernel
theorem dX7_record_2 : decode cX7_record 2 = .ok (.aload_n 0, 1) := by decide +kernel
theorem dX7_record_3 : decode cX7_record 3 = .ok (.getfield 179, 3) := by decide +kernel
theorem dX7_record_6 : decode cX7_record 6 = .ok (.isub, 1) := by decide +kernel
theorem dX7_record_7 : decode cX7_record 7 = .ok (.putfield 179, 3) := by decide +kernel
theorem dX7_record_10 : decode cX7_record 10 = .ok (.aload_n 0, 1) := by decide +kernel
theorem dX7_record_11 : decode cX7_record 11 = .ok (.getfield 64, 3) := by decide +kernel
theorem dX7_record_14 : decode cX7_record 14 = .ok (.aload_n 0, 1) := by decide +kernel
theorem dX7_record_15 : decode cX7_record 15 = .ok (.getfield 179, 3) := by decide +kernel
theorem dX7_record_18 : decode cX7_record 18 = .ok (.iconst 1, 1) := by decide +kernel
theorem dX7_record_19 : decode cX7_record 19 = .ok (.bastore, 1) := by decide +kernel
theorem dX7_record_20 : decode cX7_record 20 = .ok (.aload_n 0, 1) := by decide +kernel
theorem dX7_record_21 : decode cX7_record 21 = .ok (.getfield 68, 3) := by decide +kernel
theorem dX7_record_24 : decode cX7_record 24 = .ok (.aload_n 0, 1) := by decide +kernel
theorem dX7_record_25 : decode cX7_record 25 = .ok (.getfield 179, 3) := by decide +kernel
theorem dX7_record_28 : decode cX7_record 28 = .ok (.iload_n 1, 1) := by decide +kernel
theorem dX7_record_29 : decode cX7_record 29 = .ok (.bastore, 1) := by decide +kernel
theorem dX7_record_30 : decode cX7_record 30 = .ok (.aload_n 0, 1) := by decide +kernel
theorem dX7_record_31 : decode cX7_record 31 = .ok (.getfield 71, 3) := by decide +kernel
theorem dX7_record_34 : decode cX7_record 34 = .ok (.aload_n 0, 1) := by decide +kernel
theorem dX7_record_35 : decode cX7_record 35 = .ok (.getfield 179, 3) := by decide +kernel
theorem dX7_record_38 : decode cX7_record 38 = .ok (.aload_n 0, 1) := by decide +kernel
theorem dX7_record_39 : decode cX7_record 39 = .ok (.getfield 163, 3) := by decide +kernel
theorem dX7_record_42 : decode cX7_record 42 = .ok (.lastore, 1) := by decide +kernel
theorem dX7_record_43 : decode cX7_record 43 = .ok (.return_, 1) := by decide +kernel
set_option maxRecDepth 20000 in
theorem ggX7_beatUp_X7_look : GoodIn wsX7_beatUp wsX7_look := goodIn_r _ [15, 16, 17, 18, 19, 20, 21, 22, 23, 24, 25, 14, 26, 27, 28, 29, 30, 31, 32, 33, 34, 35, 36, 37, 38, 39, 40, 41, 42, 43, 44, 45, 46, 47, 48, 49, 50, 51, 52, 53, 54, 55, 56, 57, 58, 59, 60, 61, 62, 63, 64, 65, 66, 67, 68, 69, 70, 71, 72, 73, 74, 75] (by decide +kernel) (by decide +kernel)
set_option maxRecDepth 20000 in
theorem gX7_beatUp_X7_look : GoodIn wsX7_beatUp (wsV RX7 166 RX7 yX7_look wsX7_look) := goodIn_app (goodIn_of _ (by decide +kernel)) ggX7_beatUp_X7_look
theorem dX7_beatUp_0 : decode cX7_beatUp 0 = .ok (.aload_n 0, 1) := by decide +kernel
theorem dX7_beatUp_1 : decode cX7_beatUp 1 = .ok (.aload_n 0, 1) := by decide +kernel
theorem dX7_beatUp_2 : decode cX7_beatUp 2 = .ok (.getfield 163, 3) := by decide +kernel
theorem dX7_beatUp_5 : decode cX7_beatUp 5 = .ok (.iconst 2, 1) := by decide +kernel
theorem dX7_beatUp_6 : decode cX7_beatUp 6 = .ok (.invokevirtual 166, 3) := by decide +kernel
theorem dX7_beatUp_9 : decode cX7_beatUp 9 = .ok (.istore_n 1, 1) := by decide +kernel
theorem dX7_beatUp_10 : decode cX7_beatUp 10 = .ok (.aload_n 0, 1) := by decide +kernel
theorem dX7_beatUp_11 : decode cX7_beatUp 11 = .ok (.getfield 182, 3) := by decide +kernel
theorem dX7_beatUp_14 : decode cX7_beatUp 14 = .ok (.bipush 64, 2) := by decide +kernel
theorem dX7_beatUp_16 : decode cX7_beatUp 16 = .ok (.if_icmp .ne 69, 3) := by decide +kernel
theorem dX7_beatUp_19 : decode cX7_beatUp 19 = .ok (.iconst 1, 1) := by decide +kernel
theorem dX7_beatUp_20 : decode cX7_beatUp 20 = .ok (.istore_n 2, 1) := by decide +kernel
theorem dX7_beatUp_21 : decode cX7_beatUp 21 = .ok (.iload_n 2, 1) := by decide +kernel
theorem dX7_beatUp_22 : decode cX7_beatUp 22 = .ok (.bipush 64, 2) := by decide +kernel
theorem dX7_beatUp_24 : decode cX7_beatUp 24 = .ok (.if_icmp .ge 51, 3) := by decide +kernel
theorem dX7_beatUp_27 : decode cX7_beatUp 27 = .ok (.aload_n 0, 1) := by decide +kernel
theorem dX7_beatUp_28 : decode cX7_beatUp 28 = .ok (.getfield 55, 3) := by decide +kernel
theorem dX7_beatUp_31 : decode cX7_beatUp 31 = .ok (.iload_n 2, 1) := by decide +kernel
theorem dX7_beatUp_32 : decode cX7_beatUp 32 = .ok (.iconst 1, 1) := by decide +kernel
theorem dX7_beatUp_33 : decode cX7_beatUp 33 = .ok (.isub, 1) := by decide +kernel
theorem dX7_beatUp_34 : decode cX7_beatUp 34 = .ok (.aload_n 0, 1) := by decide +kernel
theorem dX7_beatUp_35 : decode cX7_beatUp 35 = .ok (.getfield 55, 3) := by decide +kernel
theorem dX7_beatUp_38 : decode cX7_beatUp 38 = .ok (.iload_n 2, 1) := by decide +kernel
theorem dX7_beatUp_39 : decode cX7_beatUp 39 = .ok (.iaload, 1) := by decide +kernel
theorem dX7_beatUp_40 : decode cX7_beatUp 40 = .ok (.iastore, 1) := by decide +kernel
theorem dX7_beatUp_41 : decode cX7_beatUp 41 = .ok (.aload_n 0, 1) := by decide +kernel
theorem dX7_beatUp_42 : decode cX7_beatUp 42 = .ok (.getfield 58, 3) := by decide +kernel
theorem dX7_beatUp_45 : decode cX7_beatUp 45 = .ok (.iload_n 2, 1) := by decide +kernel
theorem dX7_beatUp_46 : decode cX7_beatUp 46 = .ok (.iconst 1, 1) := by decide +kernel
theorem dX7_beatUp_47 : decode cX7_beatUp 47 = .ok (.isub, 1) := by decide +kernel
theorem dX7_beatUp_48 : decode cX7_beatUp 48 = .ok (.aload_n 0, 1) := by decide +kernel
theorem dX7_beatUp_49 : decode cX7_beatUp 49 = .ok (.getfield 58, 3) := by decide +kernel
theorem dX7_beatUp_52 : decode cX7_beatUp 52 = .ok (.iload_n 2, 1) := by decide +kernel
theorem dX7_beatUp_53 : decode cX7_beatUp 53 = .ok (.iaload, 1) := by decide +kernel
theorem dX7_beatUp_54 : decode cX7_beatUp 54 = .ok (.iastore, 1) := by decide +kernel
theorem dX7_beatUp_55 : decode cX7_beatUp 55 = .ok (.aload_n 0, 1) := by decide +kernel
theorem dX7_beatUp_56 : decode cX7_beatUp 56 = .ok (.getfield 61, 3) := by decide +kernel
theorem dX7_beatUp_59 : decode cX7_beatUp 59 = .ok (.iload_n 2, 1) := by decide +kernel
theorem dX7_beatUp_60 : decode cX7_beatUp 60 = .ok (.iconst 1, 1) := by decide +kernel
theorem dX7_beatUp_61 : decode cX7_beatUp 61 = .ok (.isub, 1) := by decide +kernel
theorem dX7_beatUp_62 : decode cX7_beatUp 62 = .ok (.aload_n 0, 1) := by decide +kernel
theorem dX7_beatUp_63 : decode cX7_beatUp 63 = .ok (.getfield 61, 3) := by decide +kernel
theorem dX7_beatUp_66 : decode cX7_beatUp 66 = .ok (.iload_n 2, 1) := by decide +kernel
theorem dX7_beatUp_67 : decode cX7_beatUp 67 = .ok (.iaload, 1) := by decide +kernel
theorem dX7_beatUp_68 : decode cX7_beatUp 68 = .ok (.iastore, 1) := by decide +kernel
theorem dX7_beatUp_69 : decode cX7_beatUp 69 = .ok (.iinc 2 1, 3) := by decide +kernel
theorem dX7_beatUp_72 : decode cX7_beatUp 72 = .ok (.goto (-51), 3) := by decide +kernel
theorem dX7_beatUp_75 : decode cX7_beatUp 75 = .ok (.aload_n 0, 1) := by decide +kernel
theorem dX7_beatUp_76 : decode cX7_beatUp 76 = .ok (.dup, 1) := by decide +kernel
theorem dX7_beatUp_77 : decode cX7_beatUp 77 = .ok (.getfield 182, 3) := by decide +kernel
theorem dX7_beatUp_80 : decode cX7_beatUp 80 = .ok (.iconst 1, 1) := by decide +kernel
theorem dX7_beatUp_81 : decode cX7_beatUp 81 = .ok (.isub, 1) := by decide +kernel
theorem dX7_beatUp_82 : decode cX7_beatUp 82 = .ok (.putfield 182, 3) := by decide +kernel
theorem dX7_beatUp_85 : decode cX7_beatUp 85 = .ok (.aload_n 0, 1) := by decide +kernel
theorem dX7_beatUp_86 : decode cX7_beatUp 86 = .ok (.getfield 55, 3) := by decide +kernel
theorem dX7_beatUp_89 : decode cX7_beatUp 89 = .ok (.aload_n 0, 1) := by decide +kernel
theorem dX7_beatUp_90 : decode cX7_beatUp 90 = .ok (.getfield 182, 3) := by decide +kernel
theorem dX7_beatUp_93 : decode cX7_beatUp 93 = .ok (.aload_n 0, 1) := by decide +kernel
theorem dX7_beatUp_94 : decode cX7_beatUp 94 = .ok (.getfield 185, 3) := by decide +kernel
theorem dX7_beatUp_97 : decode cX7_beatUp 97 = .ok (.iastore, 1) := by decide +kernel
theorem dX7_beatUp_98 : decode cX7_beatUp 98 = .ok (.aload_n 0, 1) := by decide +kernel
theorem dX7_beatUp_99 : decode cX7_beatUp 99 = .ok (.getfield 58, 3) := by decide +kernel
theorem dX7_beatUp_102 : decode cX7_beatUp 102 = .ok (.aload_n 0, 1) := by decide +kernel
theorem dX7_beatUp_103 : decode cX7_beatUp 103 = .ok (.getfield 182, 3) := by decide +kernel
theorem dX7_beatUp_106 : decode cX7_beatUp 106 = .ok (.aload_n 0, 1) := by decide +kernel
theorem dX7_beatUp_107 : decode cX7_beatUp 107 = .ok (.getfield 188, 3) := by decide +kernel
theorem dX7_beatUp_110 : decode cX7_beatUp 110 = .ok (.iastore, 1) := by decide +kernel
theorem dX7_beatUp_111 : decode cX7_beatUp 111 = .ok (.aload_n 0, 1) := by decide +kernel
theorem dX7_beatUp_112 : decode cX7_beatUp 112 = .ok (.getfield 61, 3) := by decide +kernel
theorem dX7_beatUp_115 : decode cX7_beatUp 115 = .ok (.aload_n 0, 1) := by decide +kernel
theorem dX7_beatUp_116 : decode cX7_beatUp 116 = .ok (.getfield 182, 3) := by decide +kernel
theorem dX7_beatUp_119 : decode cX7_beatUp 119 = .ok (.iload_n 1, 1) := by decide +kernel
theorem dX7_beatUp_120 : decode cX7_beatUp 120 = .ok (.iastore, 1) := by decide +kernel
theorem dX7_beatUp_121 : decode cX7_beatUp 121 = .ok (.aload_n 0, 1) := by decide +kernel
theorem dX7_beatUp_122 : decode cX7_beatUp 122 = .ok (.dup, 1) := by decide +kernel
theorem dX7_beatUp_123 : decode cX7_beatUp 123 = .ok (.getfield 182, 3) := by decide +kernel
theorem dX7_beatUp_126 : decode cX7_beatUp 126 = .ok (.iconst 1, 1) := by decide +kernel
theorem dX7_beatUp_127 : decode cX7_beatUp 127 = .ok (.iadd, 1) := by decide +kernel
theorem dX7_beatUp_128 : decode cX7_beatUp 128 = .ok (.putfield 182, 3) := by decide +kernel
theorem dX7_beatUp_131 : decode cX7_beatUp 131 = .ok (.aload_n 0, 1) := by decide +kernel
theorem dX7_beatUp_132 : decode cX7_beatUp 132 = .ok (.dup, 1) := by decide +kernel
theorem dX7_beatUp_133 : decode cX7_beatUp 133 = .ok (.getfield 191, 3) := by decide +kernel
theorem dX7_beatUp_136 : decode cX7_beatUp 136 = .ok (.sipush 4000, 3) := by decide +kernel
theorem dX7_beatUp_139 : decode cX7_beatUp 139 = .ok (.iload_n 1, 1) := by decide +kernel
theorem dX7_beatUp_140 : decode cX7_beatUp 140 = .ok (.idiv, 1) := by decide +kernel
theorem dX7_beatUp_141 : decode cX7_beatUp 141 = .ok (.i2l, 1) := by decide +kernel
theorem dX7_beatUp_142 : decode cX7_beatUp 142 = .ok (.ladd, 1) := by decide +kernel
theorem dX7_beatUp_143 : decode cX7_beatUp 143 = .ok (.putfield 191, 3) := by decide +kernel
theorem dX7_beatUp_146 : decode cX7_beatUp 146 = .ok (.aload_n 0, 1) := by decide +kernel
theorem dX7_beatUp_147 : decode cX7_beatUp 147 = .ok (.dup, 1) := by decide +kernel
theorem dX7_beatUp_148 : decode cX7_beatUp 148 = .ok (.getfield 194, 3) := by decide +kernel
theorem dX7_beatUp_151 : decode cX7_beatUp 151 = .ok (.lconst 1, 1) := by decide +kernel
theorem dX7_beatUp_152 : decode cX7_beatUp 152 = .ok (.ladd, 1) := by decide +kernel
theorem dX7_beatUp_153 : decode cX7_beatUp 153 = .ok (.putfield 194, 3) := by decide +kernel
theorem dX7_beatUp_156 : decode cX7_beatUp 156 = .ok (.aload_n 0, 1) := by decide +kernel
theorem dX7_beatUp_157 : decode cX7_beatUp 157 = .ok (.aload_n 0, 1) := by decide +kernel
theorem dX7_beatUp_158 : decode cX7_beatUp 158 = .ok (.getfield 163, 3) := by decide +kernel
theorem dX7_beatUp_161 : decode cX7_beatUp 161 = .ok (.lconst 1, 1) := by decide +kernel
theorem dX7_beatUp_162 : decode cX7_beatUp 162 = .ok (.ladd, 1) := by decide +kernel
theorem dX7_beatUp_163 : decode cX7_beatUp 163 = .ok (.aload_n 0, 1) := by decide +kernel
theorem dX7_beatUp_164 : decode cX7_beatUp 164 = .ok (.getfield 130, 3) := by decide +kernel
theorem dX7_beatUp_167 : decode cX7_beatUp 167 = .ok (.lcmp, 1) := by decide +kernel
theorem dX7_beatUp_168 : decode cX7_beatUp 168 = .ok (.ifCond .ne 7, 3) := by decide +kernel
theorem dX7_beatUp_171 : decode cX7_beatUp 171 = .ok (.lconst 0, 1) := by decide +kernel
theorem dX7_beatUp_172 : decode cX7_beatUp 172 = .ok (.goto 9, 3) := by decide +kernel
theorem dX7_beatUp_175 : decode cX7_beatUp 175 = .ok (.aload_n 0, 1) := by decide +kernel
theorem dX7_beatUp_176 : decode cX7_beatUp 176 = .ok (.getfield 163, 3) := by decide +kernel
theorem dX7_beatUp_179 : decode cX7_beatUp 179 = .ok (.lconst 1, 1) := by decide +kernel
theorem dX7_beatUp_180 : decode cX7_beatUp 180 = .ok (.ladd, 1) := by decide +kernel
theorem dX7_beatUp_181 : decode cX7_beatUp 181 = .ok (.putfield 163, 3) := by decide +kernel
theorem dX7_beatUp_184 : decode cX7_beatUp 184 = .ok (.return_, 1) := by decide +kernel
set_option maxRecDepth 20000 in
theorem ggX7_comes_X7_look : GoodIn wsX7_comes wsX7_look := goodIn_r _ [12, 13, 14, 15, 16, 17, 18, 19, 20, 21, 22, 11, 23, 24, 25, 26, 27, 28, 56, 57, 58, 59, 60, 61, 62, 63, 64, 65, 66, 67, 68, 69, 70, 71, 72, 73, 74, 75, 76, 77, 78, 79, 80, 81, 82, 83, 84, 85, 86, 87, 88, 89, 90, 91, 92, 93, 94, 95, 96, 97, 98, 99] (by decide +kernel) (by decide +kernel)
set_option maxRecDepth 20000 in
theorem gX7_comes_X7_look : GoodIn wsX7_comes (wsV RX7 166 RX7 yX7_look wsX7_look) := goodIn_app (goodIn_of _ (by decide +kernel)) ggX7_comes_X7_look
set_option maxRecDepth 20000 in
theorem ggX7_comes_X7_brakes : GoodIn wsX7_comes wsX7_brakes := goodIn_r _ [32, 33, 34, 35, 36, 56, 57, 58, 59, 60, 61, 62, 63, 64, 65, 66, 67, 68, 69, 70, 71, 72, 73, 74, 75, 76, 77, 78, 79, 80, 81, 82, 83, 84, 85, 86, 87, 88, 89, 90, 91, 92, 93, 94, 95, 96, 97, 98, 99] (by decide +kernel) (by decide +kernel)
set_option maxRecDepth 20000 in
theorem gX7_comes_X7_brakes : GoodIn wsX7_comes (wsV RX7 176 RX7 yX7_brakes wsX7_brakes) := goodIn_app (goodIn_of _ (by decide +kernel)) ggX7_comes_X7_brakes
set_option maxRecDepth 20000 in
theorem ggX7_comes_X7_record : GoodIn wsX7_comes wsX7_record := goodIn_r _ [40, 41, 42, 43, 44, 1, 56, 57, 58, 59, 60, 61, 62, 63, 64, 65, 66, 67, 68, 69, 70, 71, 72, 73, 74, 75, 76, 77, 78, 79, 80, 81, 82, 83, 84, 85, 86, 87, 88, 89, 90, 91, 92, 93, 94, 95, 96, 97, 98, 99] (by decide +kernel) (by decide +kernel)
set_option maxRecDepth 20000 in
theorem gX7_comes_X7_record : GoodIn wsX7_comes (wsV RX7 203 RX7 yX7_record wsX7_record) := goodIn_app (goodIn_of _ (by decide +kernel)) ggX7_comes_X7_record
set_option maxRecDepth 20000 in
theorem ggX7_comes_X7_beatUp : GoodIn wsX7_comes wsX7_beatUp := goodIn_r _ [48, 1, 49, 50, 51, 52, 5, 2, 53, 54, 55, 8, 9, 10, 11, 12, 13, 14, 15, 16, 17, 18, 19, 20, 21, 22, 23, 24, 25, 26, 27, 28, 56, 57, 58, 59, 60, 61, 62, 63, 64, 65, 66, 67, 68, 69, 70, 71, 72, 73, 74, 75, 76, 77, 78, 79, 80, 81, 82, 83, 84, 85, 86, 87, 88, 89, 90, 91, 92, 93, 94, 95, 96, 97, 98, 99] (by decide +kernel) (by decide +kernel)
set_option maxRecDepth 20000 in
theorem gX7_comes_X7_beatUp : GoodIn wsX7_comes (wsV RX7 207 RX7 yX7_beatUp wsX7_beatUp) := goodIn_app (goodIn_of _ (by decide +kernel)) ggX7_comes_X7_beatUp
theorem dX7_comes_0 : decode cX7_comes 0 = .ok (.iload_n 1, 1) := by decide +kernel
theorem dX7_comes_1 : decode cX7_comes 1 = .ok (.sipush 480, 3) := by decide +kernel
theorem dX7_comes_4 : decode cX7_comes 4 = .ok (.if_icmp .ne 19, 3) := by decide +kernel
theorem dX7_comes_7 : decode cX7_comes 7 = .ok (.aload_n 0, 1) := by decide +kernel
theorem dX7_comes_8 : decode cX7_comes 8 = .ok (.aload_n 0, 1) := by decide +kernel
theorem dX7_comes_9 : decode cX7_comes 9 = .ok (.aload_n 0, 1) := by decide +kernel
theorem dX7_comes_10 : decode cX7_comes 10 = .ok (.getfield 163, 3) := by decide +kernel
theorem dX7_comes_13 : decode cX7_comes 13 = .ok (.iconst 1, 1) := by decide +kernel
theorem dX7_comes_14 : decode cX7_comes 14 = .ok (.invokevirtual 166, 3) := by decide +kernel
theorem dX7_comes_17 : decode cX7_comes 17 = .ok (.putfield 188, 3) := by decide +kernel
theorem dX7_comes_20 : decode cX7_comes 20 = .ok (.goto 127, 3) := by decide +kernel
theorem dX7_comes_23 : decode cX7_comes 23 = .ok (.iload_n 1, 1) := by decide +kernel
theorem dX7_comes_24 : decode cX7_comes 24 = .ok (.sipush 1440, 3) := by decide +kernel
theorem dX7_comes_27 : decode cX7_comes 27 = .ok (.if_icmp .ne 38, 3) := by decide +kernel
theorem dX7_comes_30 : decode cX7_comes 30 = .ok (.aload_n 0, 1) := by decide +kernel
theorem dX7_comes_31 : decode cX7_comes 31 = .ok (.aload_n 0, 1) := by decide +kernel
theorem dX7_comes_32 : decode cX7_comes 32 = .ok (.getfield 197, 3) := by decide +kernel
theorem dX7_comes_35 : decode cX7_comes 35 = .ok (.ifCond .eq 7, 3) := by decide +kernel
theorem dX7_comes_38 : decode cX7_comes 38 = .ok (.iconst 2, 1) := by decide +kernel
theorem dX7_comes_39 : decode cX7_comes 39 = .ok (.goto 4, 3) := by decide +kernel
theorem dX7_comes_42 : decode cX7_comes 42 = .ok (.iconst 1, 1) := by decide +kernel
theorem dX7_comes_43 : decode cX7_comes 43 = .ok (.putfield 200, 3) := by decide +kernel
theorem dX7_comes_46 : decode cX7_comes 46 = .ok (.aload_n 0, 1) := by decide +kernel
theorem dX7_comes_47 : decode cX7_comes 47 = .ok (.getfield 197, 3) := by decide +kernel
theorem dX7_comes_50 : decode cX7_comes 50 = .ok (.ifCond .eq 7, 3) := by decide +kernel
theorem dX7_comes_53 : decode cX7_comes 53 = .ok (.aload_n 0, 1) := by decide +kernel
theorem dX7_comes_54 : decode cX7_comes 54 = .ok (.invokevirtual 176, 3) := by decide +kernel
theorem dX7_comes_57 : decode cX7_comes 57 = .ok (.aload_n 0, 1) := by decide +kernel
theorem dX7_comes_58 : decode cX7_comes 58 = .ok (.iconst 0, 1) := by decide +kernel
theorem dX7_comes_59 : decode cX7_comes 59 = .ok (.putfield 197, 3) := by decide +kernel
theorem dX7_comes_62 : decode cX7_comes 62 = .ok (.goto 85, 3) := by decide +kernel
theorem dX7_comes_65 : decode cX7_comes 65 = .ok (.iload_n 1, 1) := by decide +kernel
theorem dX7_comes_66 : decode cX7_comes 66 = .ok (.sipush 4800, 3) := by decide +kernel
theorem dX7_comes_69 : decode cX7_comes 69 = .ok (.if_icmp .ne 24, 3) := by decide +kernel
theorem dX7_comes_72 : decode cX7_comes 72 = .ok (.aload_n 0, 1) := by decide +kernel
theorem dX7_comes_73 : decode cX7_comes 73 = .ok (.aload_n 0, 1) := by decide +kernel
theorem dX7_comes_74 : decode cX7_comes 74 = .ok (.aload_n 0, 1) := by decide +kernel
theorem dX7_comes_75 : decode cX7_comes 75 = .ok (.getfield 163, 3) := by decide +kernel
theorem dX7_comes_78 : decode cX7_comes 78 = .ok (.iconst 0, 1) := by decide +kernel
theorem dX7_comes_79 : decode cX7_comes 79 = .ok (.invokevirtual 166, 3) := by decide +kernel
theorem dX7_comes_82 : decode cX7_comes 82 = .ok (.putfield 185, 3) := by decide +kernel
theorem dX7_comes_85 : decode cX7_comes 85 = .ok (.aload_n 0, 1) := by decide +kernel
theorem dX7_comes_86 : decode cX7_comes 86 = .ok (.iconst 1, 1) := by decide +kernel
theorem dX7_comes_87 : decode cX7_comes 87 = .ok (.invokevirtual 203, 3) := by decide +kernel
theorem dX7_comes_90 : decode cX7_comes 90 = .ok (.goto 57, 3) := by decide +kernel
theorem dX7_comes_93 : decode cX7_comes 93 = .ok (.aload_n 0, 1) := by decide +kernel
theorem dX7_comes_94 : decode cX7_comes 94 = .ok (.getfield 200, 3) := by decide +kernel
theorem dX7_comes_97 : decode cX7_comes 97 = .ok (.iconst 1, 1) := by decide +kernel
theorem dX7_comes_98 : decode cX7_comes 98 = .ok (.if_icmp .ne 7, 3) := by decide +kernel
theorem dX7_comes_101 : decode cX7_comes 101 = .ok (.aload_n 0, 1) := by decide +kernel
theorem dX7_comes_102 : decode cX7_comes 102 = .ok (.invokevirtual 207, 3) := by decide +kernel
theorem dX7_comes_105 : decode cX7_comes 105 = .ok (.aload_n 0, 1) := by decide +kernel
theorem dX7_comes_106 : decode cX7_comes 106 = .ok (.dup, 1) := by decide +kernel
theorem dX7_comes_107 : decode cX7_comes 107 = .ok (.getfield 210, 3) := by decide +kernel
theorem dX7_comes_110 : decode cX7_comes 110 = .ok (.aload_n 0, 1) := by decide +kernel
theorem dX7_comes_111 : decode cX7_comes 111 = .ok (.getfield 200, 3) := by decide +kernel
theorem dX7_comes_114 : decode cX7_comes 114 = .ok (.iconst 2, 1) := by decide +kernel
theorem dX7_comes_115 : decode cX7_comes 115 = .ok (.if_icmp .ne 7, 3) := by decide +kernel
theorem dX7_comes_118 : decode cX7_comes 118 = .ok (.iconst 1, 1) := by decide +kernel
theorem dX7_comes_119 : decode cX7_comes 119 = .ok (.goto 4, 3) := by decide +kernel
theorem dX7_comes_122 : decode cX7_comes 122 = .ok (.iconst 0, 1) := by decide +kernel
theorem dX7_comes_123 : decode cX7_comes 123 = .ok (.iadd, 1) := by decide +kernel
theorem dX7_comes_124 : decode cX7_comes 124 = .ok (.putfield 210, 3) := by decide +kernel
theorem dX7_comes_127 : decode cX7_comes 127 = .ok (.aload_n 0, 1) := by decide +kernel
theorem dX7_comes_128 : decode cX7_comes 128 = .ok (.iconst 0, 1) := by decide +kernel
theorem dX7_comes_129 : decode cX7_comes 129 = .ok (.putfield 200, 3) := by decide +kernel
theorem dX7_comes_132 : decode cX7_comes 132 = .ok (.aload_n 0, 1) := by decide +kernel
theorem dX7_comes_133 : decode cX7_comes 133 = .ok (.iconst 0, 1) := by decide +kernel
theorem dX7_comes_134 : decode cX7_comes 134 = .ok (.invokevirtual 203, 3) := by decide +kernel
theorem dX7_comes_137 : decode cX7_comes 137 = .ok (.aload_n 0, 1) := by decide +kernel
theorem dX7_comes_138 : decode cX7_comes 138 = .ok (.dup, 1) := by decide +kernel
theorem dX7_comes_139 : decode cX7_comes 139 = .ok (.getfield 213, 3) := by decide +kernel
theorem dX7_comes_142 : decode cX7_comes 142 = .ok (.lconst 1, 1) := by decide +kernel
theorem dX7_comes_143 : decode cX7_comes 143 = .ok (.ladd, 1) := by decide +kernel
theorem dX7_comes_144 : decode cX7_comes 144 = .ok (.putfield 213, 3) := by decide +kernel
theorem dX7_comes_147 : decode cX7_comes 147 = .ok (.return_, 1) := by decide +kernel
theorem dX7_above_0 : decode cX7_above 0 = .ok (.iload_n 0, 1) := by decide +kernel
theorem dX7_above_1 : decode cX7_above 1 = .ok (.sipush 480, 3) := by decide +kernel
theorem dX7_above_4 : decode cX7_above 4 = .ok (.if_icmp .ge 9, 3) := by decide +kernel
theorem dX7_above_7 : decode cX7_above 7 = .ok (.sipush 480, 3) := by decide +kernel
theorem dX7_above_10 : decode cX7_above 10 = .ok (.goto 32, 3) := by decide +kernel
theorem dX7_above_13 : decode cX7_above 13 = .ok (.iload_n 0, 1) := by decide +kernel
theorem dX7_above_14 : decode cX7_above 14 = .ok (.sipush 1440, 3) := by decide +kernel
theorem dX7_above_17 : decode cX7_above 17 = .ok (.if_icmp .ge 9, 3) := by decide +kernel
theorem dX7_above_20 : decode cX7_above 20 = .ok (.sipush 1440, 3) := by decide +kernel
theorem dX7_above_23 : decode cX7_above 23 = .ok (.goto 19, 3) := by decide +kernel
theorem dX7_above_26 : decode cX7_above 26 = .ok (.iload_n 0, 1) := by decide +kernel
theorem dX7_above_27 : decode cX7_above 27 = .ok (.sipush 4800, 3) := by decide +kernel
theorem dX7_above_30 : decode cX7_above 30 = .ok (.if_icmp .ge 9, 3) := by decide +kernel
theorem dX7_above_33 : decode cX7_above 33 = .ok (.sipush 4800, 3) := by decide +kernel
theorem dX7_above_36 : decode cX7_above 36 = .ok (.goto 6, 3) := by decide +kernel
theorem dX7_above_39 : decode cX7_above 39 = .ok (.sipush 5760, 3) := by decide +kernel
theorem dX7_above_42 : decode cX7_above 42 = .ok (.ireturn, 1) := by decide +kernel
set_option maxRecDepth 20000 in
theorem ggX7_turn_X7_above : GoodIn wsX7_turn wsX7_above := goodIn_r _ [12] (by decide +kernel) (by decide +kernel)
set_option maxRecDepth 20000 in
theorem gX7_turn_X7_above : GoodIn wsX7_turn (va_wsS RX7 223 yX7_above wsX7_above) := goodIn_app (goodIn_of _ (by decide +kernel)) ggX7_turn_X7_above
set_option maxRecDepth 20000 in
theorem ggX7_turn_X7_comes : GoodIn wsX7_turn wsX7_comes := goodIn_r _ [16, 17, 18, 19, 20, 21, 22, 23, 24, 25, 26, 11, 27, 28, 29, 30, 31, 32, 33, 34, 35, 36, 37, 38, 39, 40, 41, 42, 43, 44, 45, 46, 47, 1, 48, 7, 49, 50, 51, 52, 53, 54, 55, 56, 57, 58, 59, 60, 61, 62, 63, 64, 65, 66, 67, 68, 69, 70, 71, 72, 73, 74, 75, 76, 77, 78, 79, 80, 81, 82, 83, 84, 85, 86, 87, 88, 89, 90, 91, 92, 93, 94, 95, 96, 97, 98, 99, 100, 101, 102, 103, 104, 105, 106, 107, 108, 109, 110, 111, 112] (by decide +kernel) (by decide +kernel)
set_option maxRecDepth 20000 in
theorem gX7_turn_X7_comes : GoodIn wsX7_turn (wsV RX7 226 RX7 yX7_comes wsX7_comes) := goodIn_app (goodIn_of _ (by decide +kernel)) ggX7_turn_X7_comes
theorem dX7_turn_0 : decode cX7_turn 0 = .ok (.aload_n 0, 1) := by decide +kernel
theorem dX7_turn_1 : decode cX7_turn 1 = .ok (.getfield 151, 3) := by decide +kernel
theorem dX7_turn_4 : decode cX7_turn 4 = .ok (.ifCond .eq 10, 3) := by decide +kernel
theorem dX7_turn_7 : decode cX7_turn 7 = .ok (.aload_n 0, 1) := by decide +kernel
theorem dX7_turn_8 : decode cX7_turn 8 = .ok (.getfield 47, 3) := by decide +kernel
theorem dX7_turn_11 : decode cX7_turn 11 = .ok (.ifCond .ne 7, 3) := by decide +kernel
theorem dX7_turn_14 : decode cX7_turn 14 = .ok (.iconst 1, 1) := by decide +kernel
theorem dX7_turn_15 : decode cX7_turn 15 = .ok (.goto 4, 3) := by decide +kernel
theorem dX7_turn_18 : decode cX7_turn 18 = .ok (.iconst 0, 1) := by decide +kernel
theorem dX7_turn_19 : decode cX7_turn 19 = .ok (.istore_n 3, 1) := by decide +kernel
theorem dX7_turn_20 : decode cX7_turn 20 = .ok (.dload_n 1, 1) := by decide +kernel
theorem dX7_turn_21 : decode cX7_turn 21 = .ok (.dconst 0, 1) := by decide +kernel
theorem dX7_turn_22 : decode cX7_turn 22 = .ok (.dcmp .l, 1) := by decide +kernel
theorem dX7_turn_23 : decode cX7_turn 23 = .ok (.ifCond .lt 11, 3) := by decide +kernel
theorem dX7_turn_26 : decode cX7_turn 26 = .ok (.dload_n 1, 1) := by decide +kernel
theorem dX7_turn_27 : decode cX7_turn 27 = .ok (.ldc2_w 216, 3) := by decide +kernel
theorem dX7_turn_30 : decode cX7_turn 30 = .ok (.dcmp .g, 1) := by decide +kernel
theorem dX7_turn_31 : decode cX7_turn 31 = .ok (.ifCond .le 7, 3) := by decide +kernel
theorem dX7_turn_34 : decode cX7_turn 34 = .ok (.iconst 1, 1) := by decide +kernel
theorem dX7_turn_35 : decode cX7_turn 35 = .ok (.goto 4, 3) := by decide +kernel
theorem dX7_turn_38 : decode cX7_turn 38 = .ok (.iconst 0, 1) := by decide +kernel
theorem dX7_turn_39 : decode cX7_turn 39 = .ok (.istore 4, 2) := by decide +kernel
theorem dX7_turn_41 : decode cX7_turn 41 = .ok (.aload_n 0, 1) := by decide +kernel
theorem dX7_turn_42 : decode cX7_turn 42 = .ok (.iload_n 3, 1) := by decide +kernel
theorem dX7_turn_43 : decode cX7_turn 43 = .ok (.ifCond .eq 7, 3) := by decide +kernel
theorem dX7_turn_46 : decode cX7_turn 46 = .ok (.iconst 1, 1) := by decide +kernel
theorem dX7_turn_47 : decode cX7_turn 47 = .ok (.goto 13, 3) := by decide +kernel
theorem dX7_turn_50 : decode cX7_turn 50 = .ok (.iload 4, 2) := by decide +kernel
theorem dX7_turn_52 : decode cX7_turn 52 = .ok (.ifCond .eq 7, 3) := by decide +kernel
theorem dX7_turn_55 : decode cX7_turn 55 = .ok (.iconst 2, 1) := by decide +kernel
theorem dX7_turn_56 : decode cX7_turn 56 = .ok (.goto 4, 3) := by decide +kernel
theorem dX7_turn_59 : decode cX7_turn 59 = .ok (.iconst 0, 1) := by decide +kernel
theorem dX7_turn_60 : decode cX7_turn 60 = .ok (.putfield 74, 3) := by decide +kernel
theorem dX7_turn_63 : decode cX7_turn 63 = .ok (.aload_n 0, 1) := by decide +kernel
theorem dX7_turn_64 : decode cX7_turn 64 = .ok (.getfield 74, 3) := by decide +kernel
theorem dX7_turn_67 : decode cX7_turn 67 = .ok (.ifCond .le 5, 3) := by decide +kernel
theorem dX7_turn_70 : decode cX7_turn 70 = .ok (.dconst 0, 1) := by decide +kernel
theorem dX7_turn_71 : decode cX7_turn 71 = .ok (.dreturn, 1) := by decide +kernel
theorem dX7_turn_72 : decode cX7_turn 72 = .ok (.dload_n 1, 1) := by decide +kernel
theorem dX7_turn_73 : decode cX7_turn 73 = .ok (.ldc2_w 218, 3) := by decide +kernel
theorem dX7_turn_76 : decode cX7_turn 76 = .ok (.dmul, 1) := by decide +kernel
theorem dX7_turn_77 : decode cX7_turn 77 = .ok (.d2i, 1) := by decide +kernel
theorem dX7_turn_78 : decode cX7_turn 78 = .ok (.iconst 2, 1) := by decide +kernel
theorem dX7_turn_79 : decode cX7_turn 79 = .ok (.imul, 1) := by decide +kernel
theorem dX7_turn_80 : decode cX7_turn 80 = .ok (.istore 5, 2) := by decide +kernel
theorem dX7_turn_82 : decode cX7_turn 82 = .ok (.iconst 0, 1) := by decide +kernel
theorem dX7_turn_83 : decode cX7_turn 83 = .ok (.istore 6, 2) := by decide +kernel
theorem dX7_turn_85 : decode cX7_turn 85 = .ok (.iload 5, 2) := by decide +kernel
theorem dX7_turn_87 : decode cX7_turn 87 = .ok (.ifCond .le 232, 3) := by decide +kernel
theorem dX7_turn_90 : decode cX7_turn 90 = .ok (.aload_n 0, 1) := by decide +kernel
theorem dX7_turn_91 : decode cX7_turn 91 = .ok (.getfield 151, 3) := by decide +kernel
theorem dX7_turn_94 : decode cX7_turn 94 = .ok (.ifCond .eq 225, 3) := by decide +kernel
theorem dX7_turn_97 : decode cX7_turn 97 = .ok (.aload_n 0, 1) := by decide +kernel
theorem dX7_turn_98 : decode cX7_turn 98 = .ok (.getfield 220, 3) := by decide +kernel
theorem dX7_turn_101 : decode cX7_turn 101 = .ok (.invokestatic 223, 3) := by decide +kernel
theorem dX7_turn_104 : decode cX7_turn 104 = .ok (.aload_n 0, 1) := by decide +kernel
theorem dX7_turn_105 : decode cX7_turn 105 = .ok (.getfield 220, 3) := by decide +kernel
theorem dX7_turn_108 : decode cX7_turn 108 = .ok (.isub, 1) := by decide +kernel
theorem dX7_turn_109 : decode cX7_turn 109 = .ok (.istore 7, 2) := by decide +kernel
theorem dX7_turn_111 : decode cX7_turn 111 = .ok (.iload 7, 2) := by decide +kernel
theorem dX7_turn_113 : decode cX7_turn 113 = .ok (.iload 5, 2) := by decide +kernel
theorem dX7_turn_115 : decode cX7_turn 115 = .ok (.if_icmp .ge 8, 3) := by decide +kernel
theorem dX7_turn_118 : decode cX7_turn 118 = .ok (.iload 7, 2) := by decide +kernel
theorem dX7_turn_120 : decode cX7_turn 120 = .ok (.goto 5, 3) := by decide +kernel
theorem dX7_turn_123 : decode cX7_turn 123 = .ok (.iload 5, 2) := by decide +kernel
theorem dX7_turn_125 : decode cX7_turn 125 = .ok (.istore 7, 2) := by decide +kernel
theorem dX7_turn_127 : decode cX7_turn 127 = .ok (.aload_n 0, 1) := by decide +kernel
theorem dX7_turn_128 : decode cX7_turn 128 = .ok (.getfield 151, 3) := by decide +kernel
theorem dX7_turn_131 : decode cX7_turn 131 = .ok (.iconst 2, 1) := by decide +kernel
theorem dX7_turn_132 : decode cX7_turn 132 = .ok (.if_icmp .ne 19, 3) := by decide +kernel
theorem dX7_turn_135 : decode cX7_turn 135 = .ok (.aload_n 0, 1) := by decide +kernel
theorem dX7_turn_136 : decode cX7_turn 136 = .ok (.getfield 170, 3) := by decide +kernel
theorem dX7_turn_139 : decode cX7_turn 139 = .ok (.iload 7, 2) := by decide +kernel
theorem dX7_turn_141 : decode cX7_turn 141 = .ok (.if_icmp .ge 10, 3) := by decide +kernel
theorem dX7_turn_144 : decode cX7_turn 144 = .ok (.aload_n 0, 1) := by decide +kernel
theorem dX7_turn_145 : decode cX7_turn 145 = .ok (.getfield 170, 3) := by decide +kernel
theorem dX7_turn_148 : decode cX7_turn 148 = .ok (.goto 5, 3) := by decide +kernel
theorem dX7_turn_151 : decode cX7_turn 151 = .ok (.iload 7, 2) := by decide +kernel
theorem dX7_turn_153 : decode cX7_turn 153 = .ok (.istore 7, 2) := by decide +kernel
theorem dX7_turn_155 : decode cX7_turn 155 = .ok (.aload_n 0, 1) := by decide +kernel
theorem dX7_turn_156 : decode cX7_turn 156 = .ok (.dup, 1) := by decide +kernel
theorem dX7_turn_157 : decode cX7_turn 157 = .ok (.getfield 220, 3) := by decide +kernel
theorem dX7_turn_160 : decode cX7_turn 160 = .ok (.iload 7, 2) := by decide +kernel
theorem dX7_turn_162 : decode cX7_turn 162 = .ok (.iadd, 1) := by decide +kernel
theorem dX7_turn_163 : decode cX7_turn 163 = .ok (.putfield 220, 3) := by decide +kernel
theorem dX7_turn_166 : decode cX7_turn 166 = .ok (.iload 6, 2) := by decide +kernel
theorem dX7_turn_168 : decode cX7_turn 168 = .ok (.iload 7, 2) := by decide +kernel
theorem dX7_turn_170 : decode cX7_turn 170 = .ok (.iadd, 1) := by decide +kernel
theorem dX7_turn_171 : decode cX7_turn 171 = .ok (.istore 6, 2) := by decide +kernel
theorem dX7_turn_173 : decode cX7_turn 173 = .ok (.iload 5, 2) := by decide +kernel
theorem dX7_turn_175 : decode cX7_turn 175 = .ok (.iload 7, 2) := by decide +kernel
theorem dX7_turn_177 : decode cX7_turn 177 = .ok (.isub, 1) := by decide +kernel
theorem dX7_turn_178 : decode cX7_turn 178 = .ok (.istore 5, 2) := by decide +kernel
theorem dX7_turn_180 : decode cX7_turn 180 = .ok (.aload_n 0, 1) := by decide +kernel
theorem dX7_turn_181 : decode cX7_turn 181 = .ok (.dup, 1) := by decide +kernel
theorem dX7_turn_182 : decode cX7_turn 182 = .ok (.getfield 170, 3) := by decide +kernel
theorem dX7_turn_185 : decode cX7_turn 185 = .ok (.aload_n 0, 1) := by decide +kernel
theorem dX7_turn_186 : decode cX7_turn 186 = .ok (.getfield 151, 3) := by decide +kernel
theorem dX7_turn_189 : decode cX7_turn 189 = .ok (.iconst 2, 1) := by decide +kernel
theorem dX7_turn_190 : decode cX7_turn 190 = .ok (.if_icmp .ne 8, 3) := by decide +kernel
theorem dX7_turn_193 : decode cX7_turn 193 = .ok (.iload 7, 2) := by decide +kernel
theorem dX7_turn_195 : decode cX7_turn 195 = .ok (.goto 4, 3) := by decide +kernel
theorem dX7_turn_198 : decode cX7_turn 198 = .ok (.iconst 0, 1) := by decide +kernel
theorem dX7_turn_199 : decode cX7_turn 199 = .ok (.isub, 1) := by decide +kernel
theorem dX7_turn_200 : decode cX7_turn 200 = .ok (.putfield 170, 3) := by decide +kernel
theorem dX7_turn_203 : decode cX7_turn 203 = .ok (.aload_n 0, 1) := by decide +kernel
theorem dX7_turn_204 : decode cX7_turn 204 = .ok (.getfield 151, 3) := by decide +kernel
theorem dX7_turn_207 : decode cX7_turn 207 = .ok (.iconst 2, 1) := by decide +kernel
theorem dX7_turn_208 : decode cX7_turn 208 = .ok (.if_icmp .ne 14, 3) := by decide +kernel
theorem dX7_turn_211 : decode cX7_turn 211 = .ok (.aload_n 0, 1) := by decide +kernel
theorem dX7_turn_212 : decode cX7_turn 212 = .ok (.getfield 170, 3) := by decide +kernel
theorem dX7_turn_215 : decode cX7_turn 215 = .ok (.ifCond .ne 7, 3) := by decide +kernel
theorem dX7_turn_218 : decode cX7_turn 218 = .ok (.iconst 1, 1) := by decide +kernel
theorem dX7_turn_219 : decode cX7_turn 219 = .ok (.goto 4, 3) := by decide +kernel
theorem dX7_turn_222 : decode cX7_turn 222 = .ok (.iconst 0, 1) := by decide +kernel
theorem dX7_turn_223 : decode cX7_turn 223 = .ok (.istore 8, 2) := by decide +kernel
theorem dX7_turn_225 : decode cX7_turn 225 = .ok (.aload_n 0, 1) := by decide +kernel
theorem dX7_turn_226 : decode cX7_turn 226 = .ok (.getfield 220, 3) := by decide +kernel
theorem dX7_turn_229 : decode cX7_turn 229 = .ok (.sipush 480, 3) := by decide +kernel
theorem dX7_turn_232 : decode cX7_turn 232 = .ok (.if_icmp .eq 33, 3) := by decide +kernel
theorem dX7_turn_235 : decode cX7_turn 235 = .ok (.aload_n 0, 1) := by decide +kernel
theorem dX7_turn_236 : decode cX7_turn 236 = .ok (.getfield 220, 3) := by decide +kernel
theorem dX7_turn_239 : decode cX7_turn 239 = .ok (.sipush 1440, 3) := by decide +kernel
theorem dX7_turn_242 : decode cX7_turn 242 = .ok (.if_icmp .eq 23, 3) := by decide +kernel
theorem dX7_turn_245 : decode cX7_turn 245 = .ok (.aload_n 0, 1) := by decide +kernel
theorem dX7_turn_246 : decode cX7_turn 246 = .ok (.getfield 220, 3) := by decide +kernel
theorem dX7_turn_249 : decode cX7_turn 249 = .ok (.sipush 4800, 3) := by decide +kernel
theorem dX7_turn_252 : decode cX7_turn 252 = .ok (.if_icmp .eq 13, 3) := by decide +kernel
theorem dX7_turn_255 : decode cX7_turn 255 = .ok (.aload_n 0, 1) := by decide +kernel
theorem dX7_turn_256 : decode cX7_turn 256 = .ok (.getfield 220, 3) := by decide +kernel
theorem dX7_turn_259 : decode cX7_turn 259 = .ok (.sipush 5760, 3) := by decide +kernel
theorem dX7_turn_262 : decode cX7_turn 262 = .ok (.if_icmp .ne 37, 3) := by decide +kernel
theorem dX7_turn_265 : decode cX7_turn 265 = .ok (.aload_n 0, 1) := by decide +kernel
theorem dX7_turn_266 : decode cX7_turn 266 = .ok (.getfield 220, 3) := by decide +kernel
theorem dX7_turn_269 : decode cX7_turn 269 = .ok (.istore 9, 2) := by decide +kernel
theorem dX7_turn_271 : decode cX7_turn 271 = .ok (.aload_n 0, 1) := by decide +kernel
theorem dX7_turn_272 : decode cX7_turn 272 = .ok (.aload_n 0, 1) := by decide +kernel
theorem dX7_turn_273 : decode cX7_turn 273 = .ok (.getfield 220, 3) := by decide +kernel
theorem dX7_turn_276 : decode cX7_turn 276 = .ok (.sipush 5760, 3) := by decide +kernel
theorem dX7_turn_279 : decode cX7_turn 279 = .ok (.if_icmp .ne 7, 3) := by decide +kernel
theorem dX7_turn_282 : decode cX7_turn 282 = .ok (.iconst 0, 1) := by decide +kernel
theorem dX7_turn_283 : decode cX7_turn 283 = .ok (.goto 7, 3) := by decide +kernel
theorem dX7_turn_286 : decode cX7_turn 286 = .ok (.aload_n 0, 1) := by decide +kernel
theorem dX7_turn_287 : decode cX7_turn 287 = .ok (.getfield 220, 3) := by decide +kernel
theorem dX7_turn_290 : decode cX7_turn 290 = .ok (.putfield 220, 3) := by decide +kernel
theorem dX7_turn_293 : decode cX7_turn 293 = .ok (.aload_n 0, 1) := by decide +kernel
theorem dX7_turn_294 : decode cX7_turn 294 = .ok (.iload 9, 2) := by decide +kernel
theorem dX7_turn_296 : decode cX7_turn 296 = .ok (.invokevirtual 226, 3) := by decide +kernel
theorem dX7_turn_299 : decode cX7_turn 299 = .ok (.aload_n 0, 1) := by decide +kernel
theorem dX7_turn_300 : decode cX7_turn 300 = .ok (.iload 8, 2) := by decide +kernel
theorem dX7_turn_302 : decode cX7_turn 302 = .ok (.ifCond .eq 7, 3) := by decide +kernel
theorem dX7_turn_305 : decode cX7_turn 305 = .ok (.iconst 0, 1) := by decide +kernel
theorem dX7_turn_306 : decode cX7_turn 306 = .ok (.goto 7, 3) := by decide +kernel
theorem dX7_turn_309 : decode cX7_turn 309 = .ok (.aload_n 0, 1) := by decide +kernel
theorem dX7_turn_310 : decode cX7_turn 310 = .ok (.getfield 151, 3) := by decide +kernel
theorem dX7_turn_313 : decode cX7_turn 313 = .ok (.putfield 151, 3) := by decide +kernel
theorem dX7_turn_316 : decode cX7_turn 316 = .ok (.goto (-231), 3) := by decide +kernel
theorem dX7_turn_319 : decode cX7_turn 319 = .ok (.iload 6, 2) := by decide +kernel
theorem dX7_turn_321 : decode cX7_turn 321 = .ok (.i2d, 1) := by decide +kernel
theorem dX7_turn_322 : decode cX7_turn 322 = .ok (.ldc2_w 230, 3) := by decide +kernel
theorem dX7_turn_325 : decode cX7_turn 325 = .ok (.ddiv, 1) := by decide +kernel
theorem dX7_turn_326 : decode cX7_turn 326 = .ok (.dreturn, 1) := by decide +kernel
theorem dX7_notAbove_0 : decode cX7_notAbove 0 = .ok (.iload_n 0, 1) := by decide +kernel
theorem dX7_notAbove_1 : decode cX7_notAbove 1 = .ok (.sipush 4800, 3) := by decide +kernel
theorem dX7_notAbove_4 : decode cX7_notAbove 4 = .ok (.if_icmp .lt 9, 3) := by decide +kernel
theorem dX7_notAbove_7 : decode cX7_notAbove 7 = .ok (.sipush 4800, 3) := by decide +kernel
theorem dX7_notAbove_10 : decode cX7_notAbove 10 = .ok (.goto 30, 3) := by decide +kernel
theorem dX7_notAbove_13 : decode cX7_notAbove 13 = .ok (.iload_n 0, 1) := by decide +kernel
theorem dX7_notAbove_14 : decode cX7_notAbove 14 = .ok (.sipush 1440, 3) := by decide +kernel
theorem dX7_notAbove_17 : decode cX7_notAbove 17 = .ok (.if_icmp .lt 9, 3) := by decide +kernel
theorem dX7_notAbove_20 : decode cX7_notAbove 20 = .ok (.sipush 1440, 3) := by decide +kernel
theorem dX7_notAbove_23 : decode cX7_notAbove 23 = .ok (.goto 17, 3) := by decide +kernel
theorem dX7_notAbove_26 : decode cX7_notAbove 26 = .ok (.iload_n 0, 1) := by decide +kernel
theorem dX7_notAbove_27 : decode cX7_notAbove 27 = .ok (.sipush 480, 3) := by decide +kernel
theorem dX7_notAbove_30 : decode cX7_notAbove 30 = .ok (.if_icmp .lt 9, 3) := by decide +kernel
theorem dX7_notAbove_33 : decode cX7_notAbove 33 = .ok (.sipush 480, 3) := by decide +kernel
theorem dX7_notAbove_36 : decode cX7_notAbove 36 = .ok (.goto 4, 3) := by decide +kernel
theorem dX7_notAbove_39 : decode cX7_notAbove 39 = .ok (.iconst 0, 1) := by decide +kernel
theorem dX7_notAbove_40 : decode cX7_notAbove 40 = .ok (.ireturn, 1) := by decide +kernel
theorem dX7_unpicks_0 : decode cX7_unpicks 0 = .ok (.aload_n 0, 1) := by decide +kernel
theorem dX7_unpicks_1 : decode cX7_unpicks 1 = .ok (.getfield 182, 3) := by decide +kernel
theorem dX7_unpicks_4 : decode cX7_unpicks 4 = .ok (.ifCond .le 82, 3) := by decide +kernel
theorem dX7_unpicks_7 : decode cX7_unpicks 7 = .ok (.aload_n 0, 1) := by decide +kernel
theorem dX7_unpicks_8 : decode cX7_unpicks 8 = .ok (.dup, 1) := by decide +kernel
theorem dX7_unpicks_9 : decode cX7_unpicks 9 = .ok (.getfield 182, 3) := by decide +kernel
theorem dX7_unpicks_12 : decode cX7_unpicks 12 = .ok (.iconst 1, 1) := by decide +kernel
theorem dX7_unpicks_13 : decode cX7_unpicks 13 = .ok (.isub, 1) := by decide +kernel
theorem dX7_unpicks_14 : decode cX7_unpicks 14 = .ok (.putfield 182, 3) := by decide +kernel
theorem dX7_unpicks_17 : decode cX7_unpicks 17 = .ok (.aload_n 0, 1) := by decide +kernel
theorem dX7_unpicks_18 : decode cX7_unpicks 18 = .ok (.dup, 1) := by decide +kernel
theorem dX7_unpicks_19 : decode cX7_unpicks 19 = .ok (.getfield 191, 3) := by decide +kernel
theorem dX7_unpicks_22 : decode cX7_unpicks 22 = .ok (.sipush 4000, 3) := by decide +kernel
theorem dX7_unpicks_25 : decode cX7_unpicks 25 = .ok (.aload_n 0, 1) := by decide +kernel
theorem dX7_unpicks_26 : decode cX7_unpicks 26 = .ok (.getfield 61, 3) := by decide +kernel
theorem dX7_unpicks_29 : decode cX7_unpicks 29 = .ok (.aload_n 0, 1) := by decide +kernel
theorem dX7_unpicks_30 : decode cX7_unpicks 30 = .ok (.getfield 182, 3) := by decide +kernel
theorem dX7_unpicks_33 : decode cX7_unpicks 33 = .ok (.iaload, 1) := by decide +kernel
theorem dX7_unpicks_34 : decode cX7_unpicks 34 = .ok (.idiv, 1) := by decide +kernel
theorem dX7_unpicks_35 : decode cX7_unpicks 35 = .ok (.i2l, 1) := by decide +kernel
theorem dX7_unpicks_36 : decode cX7_unpicks 36 = .ok (.lsub, 1) := by decide +kernel
theorem dX7_unpicks_37 : decode cX7_unpicks 37 = .ok (.putfield 191, 3) := by decide +kernel
theorem dX7_unpicks_40 : decode cX7_unpicks 40 = .ok (.aload_n 0, 1) := by decide +kernel
theorem dX7_unpicks_41 : decode cX7_unpicks 41 = .ok (.dup, 1) := by decide +kernel
theorem dX7_unpicks_42 : decode cX7_unpicks 42 = .ok (.getfield 194, 3) := by decide +kernel
theorem dX7_unpicks_45 : decode cX7_unpicks 45 = .ok (.lconst 1, 1) := by decide +kernel
theorem dX7_unpicks_46 : decode cX7_unpicks 46 = .ok (.lsub, 1) := by decide +kernel
theorem dX7_unpicks_47 : decode cX7_unpicks 47 = .ok (.putfield 194, 3) := by decide +kernel
theorem dX7_unpicks_50 : decode cX7_unpicks 50 = .ok (.aload_n 0, 1) := by decide +kernel
theorem dX7_unpicks_51 : decode cX7_unpicks 51 = .ok (.aload_n 0, 1) := by decide +kernel
theorem dX7_unpicks_52 : decode cX7_unpicks 52 = .ok (.getfield 163, 3) := by decide +kernel
theorem dX7_unpicks_55 : decode cX7_unpicks 55 = .ok (.lconst 0, 1) := by decide +kernel
theorem dX7_unpicks_56 : decode cX7_unpicks 56 = .ok (.lcmp, 1) := by decide +kernel
theorem dX7_unpicks_57 : decode cX7_unpicks 57 = .ok (.ifCond .ne 12, 3) := by decide +kernel
theorem dX7_unpicks_60 : decode cX7_unpicks 60 = .ok (.aload_n 0, 1) := by decide +kernel
theorem dX7_unpicks_61 : decode cX7_unpicks 61 = .ok (.getfield 130, 3) := by decide +kernel
theorem dX7_unpicks_64 : decode cX7_unpicks 64 = .ok (.lconst 1, 1) := by decide +kernel
theorem dX7_unpicks_65 : decode cX7_unpicks 65 = .ok (.lsub, 1) := by decide +kernel
theorem dX7_unpicks_66 : decode cX7_unpicks 66 = .ok (.goto 9, 3) := by decide +kernel
theorem dX7_unpicks_69 : decode cX7_unpicks 69 = .ok (.aload_n 0, 1) := by decide +kernel
theorem dX7_unpicks_70 : decode cX7_unpicks 70 = .ok (.getfield 163, 3) := by decide +kernel
theorem dX7_unpicks_73 : decode cX7_unpicks 73 = .ok (.lconst 1, 1) := by decide +kernel
theorem dX7_unpicks_74 : decode cX7_unpicks 74 = .ok (.lsub, 1) := by decide +kernel
theorem dX7_unpicks_75 : decode cX7_unpicks 75 = .ok (.putfield 163, 3) := by decide +kernel
theorem dX7_unpicks_78 : decode cX7_unpicks 78 = .ok (.aload_n 0, 1) := by decide +kernel
theorem dX7_unpicks_79 : decode cX7_unpicks 79 = .ok (.iconst 1, 1) := by decide +kernel
theorem dX7_unpicks_80 : decode cX7_unpicks 80 = .ok (.putfield 200, 3) := by decide +kernel
theorem dX7_unpicks_83 : decode cX7_unpicks 83 = .ok (.goto 8, 3) := by decide +kernel
theorem dX7_unpicks_86 : decode cX7_unpicks 86 = .ok (.aload_n 0, 1) := by decide +kernel
theorem dX7_unpicks_87 : decode cX7_unpicks 87 = .ok (.iconst 0, 1) := by decide +kernel
theorem dX7_unpicks_88 : decode cX7_unpicks 88 = .ok (.putfield 200, 3) := by decide +kernel
theorem dX7_unpicks_91 : decode cX7_unpicks 91 = .ok (.aload_n 0, 1) := by decide +kernel
theorem dX7_unpicks_92 : decode cX7_unpicks 92 = .ok (.dup, 1) := by decide +kernel
theorem dX7_unpicks_93 : decode cX7_unpicks 93 = .ok (.getfield 213, 3) := by decide +kernel
theorem dX7_unpicks_96 : decode cX7_unpicks 96 = .ok (.lconst 1, 1) := by decide +kernel
theorem dX7_unpicks_97 : decode cX7_unpicks 97 = .ok (.lsub, 1) := by decide +kernel
theorem dX7_unpicks_98 : decode cX7_unpicks 98 = .ok (.putfield 213, 3) := by decide +kernel
theorem dX7_unpicks_101 : decode cX7_unpicks 101 = .ok (.return_, 1) := by decide +kernel
set_option maxRecDepth 20000 in
theorem ggX7_goesBack_X7_notAbove : GoodIn wsX7_goesBack wsX7_notAbove := goodIn_r _ [6] (by decide +kernel) (by decide +kernel)
set_option maxRecDepth 20000 in
theorem gX7_goesBack_X7_notAbove : GoodIn wsX7_goesBack (va_wsS RX7 232 yX7_notAbove wsX7_notAbove) := goodIn_app (goodIn_of _ (by decide +kernel)) ggX7_goesBack_X7_notAbove
set_option maxRecDepth 20000 in
theorem ggX7_goesBack_X7_unpicks : GoodIn wsX7_goesBack wsX7_unpicks := goodIn_r _ [10, 11, 12, 13, 14, 15, 16, 2, 17, 18, 19, 20, 21, 22, 23, 24, 25, 26, 27, 28, 29, 30, 31, 32, 33, 34, 35, 36, 37, 38, 39, 40, 41, 42, 43, 44, 45, 46, 47, 48, 49, 50, 51, 52, 53, 54, 55, 56, 57, 58, 59, 60, 61] (by decide +kernel) (by decide +kernel)
set_option maxRecDepth 20000 in
theorem gX7_goesBack_X7_unpicks : GoodIn wsX7_goesBack (wsV RX7 235 RX7 yX7_unpicks wsX7_unpicks) := goodIn_app (goodIn_of _ (by decide +kernel)) ggX7_goesBack_X7_unpicks
theorem dX7_goesBack_0 : decode cX7_goesBack 0 = .ok (.iload_n 1, 1) := by decide +kernel
theorem dX7_goesBack_1 : decode cX7_goesBack 1 = .ok (.istore_n 2, 1) := by decide +kernel
theorem dX7_goesBack_2 : decode cX7_goesBack 2 = .ok (.iload_n 2, 1) := by decide +kernel
theorem dX7_goesBack_3 : decode cX7_goesBack 3 = .ok (.ifCond .le 88, 3) := by decide +kernel
theorem dX7_goesBack_6 : decode cX7_goesBack 6 = .ok (.aload_n 0, 1) := by decide +kernel
theorem dX7_goesBack_7 : decode cX7_goesBack 7 = .ok (.getfield 220, 3) := by decide +kernel
theorem dX7_goesBack_10 : decode cX7_goesBack 10 = .ok (.invokestatic 232, 3) := by decide +kernel
theorem dX7_goesBack_13 : decode cX7_goesBack 13 = .ok (.istore_n 3, 1) := by decide +kernel
theorem dX7_goesBack_14 : decode cX7_goesBack 14 = .ok (.aload_n 0, 1) := by decide +kernel
theorem dX7_goesBack_15 : decode cX7_goesBack 15 = .ok (.getfield 220, 3) := by decide +kernel
theorem dX7_goesBack_18 : decode cX7_goesBack 18 = .ok (.iload_n 3, 1) := by decide +kernel
theorem dX7_goesBack_19 : decode cX7_goesBack 19 = .ok (.isub, 1) := by decide +kernel
theorem dX7_goesBack_20 : decode cX7_goesBack 20 = .ok (.iload_n 2, 1) := by decide +kernel
theorem dX7_goesBack_21 : decode cX7_goesBack 21 = .ok (.if_icmp .lt 18, 3) := by decide +kernel
theorem dX7_goesBack_24 : decode cX7_goesBack 24 = .ok (.aload_n 0, 1) := by decide +kernel
theorem dX7_goesBack_25 : decode cX7_goesBack 25 = .ok (.dup, 1) := by decide +kernel
theorem dX7_goesBack_26 : decode cX7_goesBack 26 = .ok (.getfield 220, 3) := by decide +kernel
theorem dX7_goesBack_29 : decode cX7_goesBack 29 = .ok (.iload_n 2, 1) := by decide +kernel
theorem dX7_goesBack_30 : decode cX7_goesBack 30 = .ok (.isub, 1) := by decide +kernel
theorem dX7_goesBack_31 : decode cX7_goesBack 31 = .ok (.putfield 220, 3) := by decide +kernel
theorem dX7_goesBack_34 : decode cX7_goesBack 34 = .ok (.iconst 0, 1) := by decide +kernel
theorem dX7_goesBack_35 : decode cX7_goesBack 35 = .ok (.istore_n 2, 1) := by decide +kernel
theorem dX7_goesBack_36 : decode cX7_goesBack 36 = .ok (.goto (-34), 3) := by decide +kernel
theorem dX7_goesBack_39 : decode cX7_goesBack 39 = .ok (.iload_n 2, 1) := by decide +kernel
theorem dX7_goesBack_40 : decode cX7_goesBack 40 = .ok (.aload_n 0, 1) := by decide +kernel
theorem dX7_goesBack_41 : decode cX7_goesBack 41 = .ok (.getfield 220, 3) := by decide +kernel
theorem dX7_goesBack_44 : decode cX7_goesBack 44 = .ok (.iload_n 3, 1) := by decide +kernel
theorem dX7_goesBack_45 : decode cX7_goesBack 45 = .ok (.isub, 1) := by decide +kernel
theorem dX7_goesBack_46 : decode cX7_goesBack 46 = .ok (.isub, 1) := by decide +kernel
theorem dX7_goesBack_47 : decode cX7_goesBack 47 = .ok (.istore_n 2, 1) := by decide +kernel
theorem dX7_goesBack_48 : decode cX7_goesBack 48 = .ok (.iload_n 3, 1) := by decide +kernel
theorem dX7_goesBack_49 : decode cX7_goesBack 49 = .ok (.sipush 1440, 3) := by decide +kernel
theorem dX7_goesBack_52 : decode cX7_goesBack 52 = .ok (.if_icmp .ne 8, 3) := by decide +kernel
theorem dX7_goesBack_55 : decode cX7_goesBack 55 = .ok (.aload_n 0, 1) := by decide +kernel
theorem dX7_goesBack_56 : decode cX7_goesBack 56 = .ok (.iconst 0, 1) := by decide +kernel
theorem dX7_goesBack_57 : decode cX7_goesBack 57 = .ok (.putfield 200, 3) := by decide +kernel
theorem dX7_goesBack_60 : decode cX7_goesBack 60 = .ok (.iload_n 3, 1) := by decide +kernel
theorem dX7_goesBack_61 : decode cX7_goesBack 61 = .ok (.ifCond .ne 7, 3) := by decide +kernel
theorem dX7_goesBack_64 : decode cX7_goesBack 64 = .ok (.aload_n 0, 1) := by decide +kernel
theorem dX7_goesBack_65 : decode cX7_goesBack 65 = .ok (.invokevirtual 235, 3) := by decide +kernel
theorem dX7_goesBack_68 : decode cX7_goesBack 68 = .ok (.aload_n 0, 1) := by decide +kernel
theorem dX7_goesBack_69 : decode cX7_goesBack 69 = .ok (.iload_n 3, 1) := by decide +kernel
theorem dX7_goesBack_70 : decode cX7_goesBack 70 = .ok (.ifCond .ne 9, 3) := by decide +kernel
theorem dX7_goesBack_73 : decode cX7_goesBack 73 = .ok (.sipush 5760, 3) := by decide +kernel
theorem dX7_goesBack_76 : decode cX7_goesBack 76 = .ok (.goto 4, 3) := by decide +kernel
theorem dX7_goesBack_79 : decode cX7_goesBack 79 = .ok (.iload_n 3, 1) := by decide +kernel
theorem dX7_goesBack_80 : decode cX7_goesBack 80 = .ok (.iconst 1, 1) := by decide +kernel
theorem dX7_goesBack_81 : decode cX7_goesBack 81 = .ok (.isub, 1) := by decide +kernel
theorem dX7_goesBack_82 : decode cX7_goesBack 82 = .ok (.putfield 220, 3) := by decide +kernel
theorem dX7_goesBack_85 : decode cX7_goesBack 85 = .ok (.iinc 2 (-1), 3) := by decide +kernel
theorem dX7_goesBack_88 : decode cX7_goesBack 88 = .ok (.goto (-86), 3) := by decide +kernel
theorem dX7_goesBack_91 : decode cX7_goesBack 91 = .ok (.return_, 1) := by decide +kernel
set_option maxRecDepth 20000 in
theorem ggX7_back_X7_goesBack : GoodIn wsX7_back wsX7_goesBack := goodIn_r _ [13, 7, 14, 15, 16, 12, 17, 18, 19, 20, 21, 22, 23, 24, 25, 26, 2, 27, 28, 29, 30, 31, 32, 33, 34, 35, 36, 37, 38, 39, 40, 41, 42, 43, 44, 45, 46, 47, 48, 49, 50, 51, 52, 53, 54, 55, 56, 57, 58, 59, 60, 61, 62, 63, 64, 65, 66, 67, 68, 69, 70, 71] (by decide +kernel) (by decide +kernel)
set_option maxRecDepth 20000 in
theorem gX7_back_X7_goesBack : GoodIn wsX7_back (wsV RX7 240 RX7 yX7_goesBack wsX7_goesBack) := goodIn_app (goodIn_of _ (by decide +kernel)) ggX7_back_X7_goesBack
theorem dX7_back_0 : decode cX7_back 0 = .ok (.aload_n 0, 1) := by decide +kernel
theorem dX7_back_1 : decode cX7_back 1 = .ok (.getfield 151, 3) := by decide +kernel
theorem dX7_back_4 : decode cX7_back 4 = .ok (.ifCond .ne 19, 3) := by decide +kernel
theorem dX7_back_7 : decode cX7_back 7 = .ok (.aload_n 0, 1) := by decide +kernel
theorem dX7_back_8 : decode cX7_back 8 = .ok (.getfield 130, 3) := by decide +kernel
theorem dX7_back_11 : decode cX7_back 11 = .ok (.lconst 0, 1) := by decide +kernel
theorem dX7_back_12 : decode cX7_back 12 = .ok (.lcmp, 1) := by decide +kernel
theorem dX7_back_13 : decode cX7_back 13 = .ok (.ifCond .eq 10, 3) := by decide +kernel
theorem dX7_back_16 : decode cX7_back 16 = .ok (.aload_n 0, 1) := by decide +kernel
theorem dX7_back_17 : decode cX7_back 17 = .ok (.getfield 47, 3) := by decide +kernel
theorem dX7_back_20 : decode cX7_back 20 = .ok (.ifCond .ne 7, 3) := by decide +kernel
theorem dX7_back_23 : decode cX7_back 23 = .ok (.iconst 1, 1) := by decide +kernel
theorem dX7_back_24 : decode cX7_back 24 = .ok (.goto 4, 3) := by decide +kernel
theorem dX7_back_27 : decode cX7_back 27 = .ok (.iconst 0, 1) := by decide +kernel
theorem dX7_back_28 : decode cX7_back 28 = .ok (.istore_n 3, 1) := by decide +kernel
theorem dX7_back_29 : decode cX7_back 29 = .ok (.dload_n 1, 1) := by decide +kernel
theorem dX7_back_30 : decode cX7_back 30 = .ok (.dconst 0, 1) := by decide +kernel
theorem dX7_back_31 : decode cX7_back 31 = .ok (.dcmp .l, 1) := by decide +kernel
theorem dX7_back_32 : decode cX7_back 32 = .ok (.ifCond .lt 11, 3) := by decide +kernel
theorem dX7_back_35 : decode cX7_back 35 = .ok (.dload_n 1, 1) := by decide +kernel
theorem dX7_back_36 : decode cX7_back 36 = .ok (.ldc2_w 238, 3) := by decide +kernel
theorem dX7_back_39 : decode cX7_back 39 = .ok (.dcmp .g, 1) := by decide +kernel
theorem dX7_back_40 : decode cX7_back 40 = .ok (.ifCond .le 7, 3) := by decide +kernel
theorem dX7_back_43 : decode cX7_back 43 = .ok (.iconst 1, 1) := by decide +kernel
theorem dX7_back_44 : decode cX7_back 44 = .ok (.goto 4, 3) := by decide +kernel
theorem dX7_back_47 : decode cX7_back 47 = .ok (.iconst 0, 1) := by decide +kernel
theorem dX7_back_48 : decode cX7_back 48 = .ok (.istore 4, 2) := by decide +kernel
theorem dX7_back_50 : decode cX7_back 50 = .ok (.aload_n 0, 1) := by decide +kernel
theorem dX7_back_51 : decode cX7_back 51 = .ok (.iload_n 3, 1) := by decide +kernel
theorem dX7_back_52 : decode cX7_back 52 = .ok (.ifCond .eq 7, 3) := by decide +kernel
theorem dX7_back_55 : decode cX7_back 55 = .ok (.iconst 1, 1) := by decide +kernel
theorem dX7_back_56 : decode cX7_back 56 = .ok (.goto 13, 3) := by decide +kernel
theorem dX7_back_59 : decode cX7_back 59 = .ok (.iload 4, 2) := by decide +kernel
theorem dX7_back_61 : decode cX7_back 61 = .ok (.ifCond .eq 7, 3) := by decide +kernel
theorem dX7_back_64 : decode cX7_back 64 = .ok (.iconst 2, 1) := by decide +kernel
theorem dX7_back_65 : decode cX7_back 65 = .ok (.goto 4, 3) := by decide +kernel
theorem dX7_back_68 : decode cX7_back 68 = .ok (.iconst 0, 1) := by decide +kernel
theorem dX7_back_69 : decode cX7_back 69 = .ok (.putfield 74, 3) := by decide +kernel
theorem dX7_back_72 : decode cX7_back 72 = .ok (.aload_n 0, 1) := by decide +kernel
theorem dX7_back_73 : decode cX7_back 73 = .ok (.getfield 74, 3) := by decide +kernel
theorem dX7_back_76 : decode cX7_back 76 = .ok (.ifCond .le 5, 3) := by decide +kernel
theorem dX7_back_79 : decode cX7_back 79 = .ok (.dconst 0, 1) := by decide +kernel
theorem dX7_back_80 : decode cX7_back 80 = .ok (.dreturn, 1) := by decide +kernel
theorem dX7_back_81 : decode cX7_back 81 = .ok (.aload_n 0, 1) := by decide +kernel
theorem dX7_back_82 : decode cX7_back 82 = .ok (.dload_n 1, 1) := by decide +kernel
theorem dX7_back_83 : decode cX7_back 83 = .ok (.ldc2_w 218, 3) := by decide +kernel
theorem dX7_back_86 : decode cX7_back 86 = .ok (.dmul, 1) := by decide +kernel
theorem dX7_back_87 : decode cX7_back 87 = .ok (.d2i, 1) := by decide +kernel
theorem dX7_back_88 : decode cX7_back 88 = .ok (.iconst 2, 1) := by decide +kernel
theorem dX7_back_89 : decode cX7_back 89 = .ok (.imul, 1) := by decide +kernel
theorem dX7_back_90 : decode cX7_back 90 = .ok (.invokevirtual 240, 3) := by decide +kernel
theorem dX7_back_93 : decode cX7_back 93 = .ok (.aload_n 0, 1) := by decide +kernel
theorem dX7_back_94 : decode cX7_back 94 = .ok (.getfield 220, 3) := by decide +kernel
theorem dX7_back_97 : decode cX7_back 97 = .ok (.i2d, 1) := by decide +kernel
theorem dX7_back_98 : decode cX7_back 98 = .ok (.ldc2_w 230, 3) := by decide +kernel
theorem dX7_back_101 : decode cX7_back 101 = .ok (.ddiv, 1) := by decide +kernel
theorem dX7_back_102 : decode cX7_back 102 = .ok (.dreturn, 1) := by decide +kernel
set_option maxRecDepth 20000 in
theorem ggX7_findPick_X7_goesBack : GoodIn wsX7_findPick wsX7_goesBack := goodIn_r _ [10, 5, 3, 11, 12, 9, 13, 14, 15, 16, 17, 18, 19, 20, 21, 22, 23, 24, 25, 26, 27, 28, 29, 30, 31, 32, 33, 34, 35, 36, 37, 38, 39, 40, 41, 42, 43, 44, 45, 46, 47, 48, 49, 50, 51, 52, 53, 54, 55, 56, 57, 58, 59, 60, 61, 62, 63, 64, 65, 66, 67, 68] (by decide +kernel) (by decide +kernel)
set_option maxRecDepth 20000 in
theorem gX7_findPick_X7_goesBack : GoodIn wsX7_findPick (wsV RX7 240 RX7 yX7_goesBack wsX7_goesBack) := goodIn_app (goodIn_of _ (by decide +kernel)) ggX7_findPick_X7_goesBack
theorem dX7_findPick_0 : decode cX7_findPick 0 = .ok (.aload_n 0, 1) := by decide +kernel
theorem dX7_findPick_1 : decode cX7_findPick 1 = .ok (.iconst 0, 1) := by decide +kernel
theorem dX7_findPick_2 : decode cX7_findPick 2 = .ok (.putfield 74, 3) := by decide +kernel
theorem dX7_findPick_5 : decode cX7_findPick 5 = .ok (.aload_n 0, 1) := by decide +kernel
theorem dX7_findPick_6 : decode cX7_findPick 6 = .ok (.getfield 151, 3) := by decide +kernel
theorem dX7_findPick_9 : decode cX7_findPick 9 = .ok (.ifCond .ne 18, 3) := by decide +kernel
theorem dX7_findPick_12 : decode cX7_findPick 12 = .ok (.aload_n 0, 1) := by decide +kernel
theorem dX7_findPick_13 : decode cX7_findPick 13 = .ok (.getfield 200, 3) := by decide +kernel
theorem dX7_findPick_16 : decode cX7_findPick 16 = .ok (.iconst 2, 1) := by decide +kernel
theorem dX7_findPick_17 : decode cX7_findPick 17 = .ok (.if_icmp .ne 10, 3) := by decide +kernel
theorem dX7_findPick_20 : decode cX7_findPick 20 = .ok (.aload_n 0, 1) := by decide +kernel
theorem dX7_findPick_21 : decode cX7_findPick 21 = .ok (.getfield 47, 3) := by decide +kernel
theorem dX7_findPick_24 : decode cX7_findPick 24 = .ok (.ifCond .ne 5, 3) := by decide +kernel
theorem dX7_findPick_27 : decode cX7_findPick 27 = .ok (.iconst 0, 1) := by decide +kernel
theorem dX7_findPick_28 : decode cX7_findPick 28 = .ok (.ireturn, 1) := by decide +kernel
theorem dX7_findPick_29 : decode cX7_findPick 29 = .ok (.aload_n 0, 1) := by decide +kernel
theorem dX7_findPick_30 : decode cX7_findPick 30 = .ok (.getfield 220, 3) := by decide +kernel
theorem dX7_findPick_33 : decode cX7_findPick 33 = .ok (.sipush 960, 3) := by decide +kernel
theorem dX7_findPick_36 : decode cX7_findPick 36 = .ok (.if_icmp .le 15, 3) := by decide +kernel
theorem dX7_findPick_39 : decode cX7_findPick 39 = .ok (.aload_n 0, 1) := by decide +kernel
theorem dX7_findPick_40 : decode cX7_findPick 40 = .ok (.aload_n 0, 1) := by decide +kernel
theorem dX7_findPick_41 : decode cX7_findPick 41 = .ok (.getfield 220, 3) := by decide +kernel
theorem dX7_findPick_44 : decode cX7_findPick 44 = .ok (.sipush 960, 3) := by decide +kernel
theorem dX7_findPick_47 : decode cX7_findPick 47 = .ok (.isub, 1) := by decide +kernel
theorem dX7_findPick_48 : decode cX7_findPick 48 = .ok (.invokevirtual 240, 3) := by decide +kernel
theorem dX7_findPick_51 : decode cX7_findPick 51 = .ok (.iconst 1, 1) := by decide +kernel
theorem dX7_findPick_52 : decode cX7_findPick 52 = .ok (.ireturn, 1) := by decide +kernel
theorem dX7_weft_0 : decode cX7_weft 0 = .ok (.aload_n 0, 1) := by decide +kernel
theorem dX7_weft_1 : decode cX7_weft 1 = .ok (.iconst 0, 1) := by decide +kernel
theorem dX7_weft_2 : decode cX7_weft 2 = .ok (.putfield 74, 3) := by decide +kernel
theorem dX7_weft_5 : decode cX7_weft 5 = .ok (.aload_n 0, 1) := by decide +kernel
theorem dX7_weft_6 : decode cX7_weft 6 = .ok (.getfield 47, 3) := by decide +kernel
theorem dX7_weft_9 : decode cX7_weft 9 = .ok (.ifCond .ne 5, 3) := by decide +kernel
theorem dX7_weft_12 : decode cX7_weft 12 = .ok (.iconst 0, 1) := by decide +kernel
theorem dX7_weft_13 : decode cX7_weft 13 = .ok (.ireturn, 1) := by decide +kernel
theorem dX7_weft_14 : decode cX7_weft 14 = .ok (.aload_n 0, 1) := by decide +kernel
theorem dX7_weft_15 : decode cX7_weft 15 = .ok (.iload_n 1, 1) := by decide +kernel
theorem dX7_weft_16 : decode cX7_weft 16 = .ok (.putfield 197, 3) := by decide +kernel
theorem dX7_weft_19 : decode cX7_weft 19 = .ok (.iconst 1, 1) := by decide +kernel
theorem dX7_weft_20 : decode cX7_weft 20 = .ok (.ireturn, 1) := by decide +kernel
theorem dX7_jump_0 : decode cX7_jump 0 = .ok (.aload_n 0, 1) := by decide +kernel
theorem dX7_jump_1 : decode cX7_jump 1 = .ok (.iconst 0, 1) := by decide +kernel
theorem dX7_jump_2 : decode cX7_jump 2 = .ok (.putfield 74, 3) := by decide +kernel
theorem dX7_jump_5 : decode cX7_jump 5 = .ok (.aload_n 0, 1) := by decide +kernel
theorem dX7_jump_6 : decode cX7_jump 6 = .ok (.getfield 151, 3) := by decide +kernel
theorem dX7_jump_9 : decode cX7_jump 9 = .ok (.ifCond .ne 35, 3) := by decide +kernel
theorem dX7_jump_12 : decode cX7_jump 12 = .ok (.aload_n 0, 1) := by decide +kernel
theorem dX7_jump_13 : decode cX7_jump 13 = .ok (.getfield 220, 3) := by decide +kernel
theorem dX7_jump_16 : decode cX7_jump 16 = .ok (.sipush 480, 3) := by decide +kernel
theorem dX7_jump_19 : decode cX7_jump 19 = .ok (.if_icmp .ge 25, 3) := by decide +kernel
theorem dX7_jump_22 : decode cX7_jump 22 = .ok (.lload_n 1, 1) := by decide +kernel
theorem dX7_jump_23 : decode cX7_jump 23 = .ok (.lconst 0, 1) := by decide +kernel
theorem dX7_jump_24 : decode cX7_jump 24 = .ok (.lcmp, 1) := by decide +kernel
theorem dX7_jump_25 : decode cX7_jump 25 = .ok (.ifCond .lt 19, 3) := by decide +kernel
theorem dX7_jump_28 : decode cX7_jump 28 = .ok (.lload_n 1, 1) := by decide +kernel
theorem dX7_jump_29 : decode cX7_jump 29 = .ok (.aload_n 0, 1) := by decide +kernel
theorem dX7_jump_30 : decode cX7_jump 30 = .ok (.getfield 130, 3) := by decide +kernel
theorem dX7_jump_33 : decode cX7_jump 33 = .ok (.lcmp, 1) := by decide +kernel
theorem dX7_jump_34 : decode cX7_jump 34 = .ok (.ifCond .ge 10, 3) := by decide +kernel
theorem dX7_jump_37 : decode cX7_jump 37 = .ok (.aload_n 0, 1) := by decide +kernel
theorem dX7_jump_38 : decode cX7_jump 38 = .ok (.getfield 47, 3) := by decide +kernel
theorem dX7_jump_41 : decode cX7_jump 41 = .ok (.ifCond .ne 5, 3) := by decide +kernel
theorem dX7_jump_44 : decode cX7_jump 44 = .ok (.iconst 0, 1) := by decide +kernel
theorem dX7_jump_45 : decode cX7_jump 45 = .ok (.ireturn, 1) := by decide +kernel
theorem dX7_jump_46 : decode cX7_jump 46 = .ok (.aload_n 0, 1) := by decide +kernel
theorem dX7_jump_47 : decode cX7_jump 47 = .ok (.lload_n 1, 1) := by decide +kernel
theorem dX7_jump_48 : decode cX7_jump 48 = .ok (.putfield 163, 3) := by decide +kernel
theorem dX7_jump_51 : decode cX7_jump 51 = .ok (.iconst 1, 1) := by decide +kernel
theorem dX7_jump_52 : decode cX7_jump 52 = .ok (.ireturn, 1) := by decide +kernel
theorem dX7_speed_0 : decode cX7_speed 0 = .ok (.aload_n 0, 1) := by decide +kernel
theorem dX7_speed_1 : decode cX7_speed 1 = .ok (.iconst 0, 1) := by decide +kernel
theorem dX7_speed_2 : decode cX7_speed 2 = .ok (.putfield 74, 3) := by decide +kernel
theorem dX7_speed_5 : decode cX7_speed 5 = .ok (.aload_n 0, 1) := by decide +kernel
theorem dX7_speed_6 : decode cX7_speed 6 = .ok (.getfield 151, 3) := by decide +kernel
theorem dX7_speed_9 : decode cX7_speed 9 = .ok (.ifCond .ne 17, 3) := by decide +kernel
theorem dX7_speed_12 : decode cX7_speed 12 = .ok (.fload_n 1, 1) := by decide +kernel
theorem dX7_speed_13 : decode cX7_speed 13 = .ok (.ldc 243, 2) := by decide +kernel
theorem dX7_speed_15 : decode cX7_speed 15 = .ok (.fcmp .l, 1) := by decide +kernel
theorem dX7_speed_16 : decode cX7_speed 16 = .ok (.ifCond .lt 10, 3) := by decide +kernel
theorem dX7_speed_19 : decode cX7_speed 19 = .ok (.fload_n 1, 1) := by decide +kernel
theorem dX7_speed_20 : decode cX7_speed 20 = .ok (.ldc 244, 2) := by decide +kernel
theorem dX7_speed_22 : decode cX7_speed 22 = .ok (.fcmp .g, 1) := by decide +kernel
theorem dX7_speed_23 : decode cX7_speed 23 = .ok (.ifCond .le 5, 3) := by decide +kernel
theorem dX7_speed_26 : decode cX7_speed 26 = .ok (.iconst 0, 1) := by decide +kernel
theorem dX7_speed_27 : decode cX7_speed 27 = .ok (.ireturn, 1) := by decide +kernel
theorem dX7_speed_28 : decode cX7_speed 28 = .ok (.aload_n 0, 1) := by decide +kernel
theorem dX7_speed_29 : decode cX7_speed 29 = .ok (.fload_n 1, 1) := by decide +kernel
theorem dX7_speed_30 : decode cX7_speed 30 = .ok (.ldc 245, 2) := by decide +kernel
theorem dX7_speed_32 : decode cX7_speed 32 = .ok (.fmul, 1) := by decide +kernel
theorem dX7_speed_33 : decode cX7_speed 33 = .ok (.f2i, 1) := by decide +kernel
theorem dX7_speed_34 : decode cX7_speed 34 = .ok (.iconst 2, 1) := by decide +kernel
theorem dX7_speed_35 : decode cX7_speed 35 = .ok (.imul, 1) := by decide +kernel
theorem dX7_speed_36 : decode cX7_speed 36 = .ok (.putfield 51, 3) := by decide +kernel
theorem dX7_speed_39 : decode cX7_speed 39 = .ok (.iconst 1, 1) := by decide +kernel
theorem dX7_speed_40 : decode cX7_speed 40 = .ok (.ireturn, 1) := by decide +kernel
theorem dX7_cut_0 : decode cX7_cut 0 = .ok (.aload_n 0, 1) := by decide +kernel
theorem dX7_cut_1 : decode cX7_cut 1 = .ok (.iconst 0, 1) := by decide +kernel
theorem dX7_cut_2 : decode cX7_cut 2 = .ok (.putfield 74, 3) := by decide +kernel
theorem dX7_cut_5 : decode cX7_cut 5 = .ok (.aload_n 0, 1) := by decide +kernel
theorem dX7_cut_6 : decode cX7_cut 6 = .ok (.getfield 47, 3) := by decide +kernel
theorem dX7_cut_9 : decode cX7_cut 9 = .ok (.ifCond .ne 5, 3) := by decide +kernel
theorem dX7_cut_12 : decode cX7_cut 12 = .ok (.iconst 0, 1) := by decide +kernel
theorem dX7_cut_13 : decode cX7_cut 13 = .ok (.ireturn, 1) := by decide +kernel
theorem dX7_cut_14 : decode cX7_cut 14 = .ok (.aload_n 0, 1) := by decide +kernel
theorem dX7_cut_15 : decode cX7_cut 15 = .ok (.iconst 0, 1) := by decide +kernel
theorem dX7_cut_16 : decode cX7_cut 16 = .ok (.putfield 47, 3) := by decide +kernel
theorem dX7_cut_19 : decode cX7_cut 19 = .ok (.aload_n 0, 1) := by decide +kernel
theorem dX7_cut_20 : decode cX7_cut 20 = .ok (.iconst 0, 1) := by decide +kernel
theorem dX7_cut_21 : decode cX7_cut 21 = .ok (.putfield 151, 3) := by decide +kernel
theorem dX7_cut_24 : decode cX7_cut 24 = .ok (.aload_n 0, 1) := by decide +kernel
theorem dX7_cut_25 : decode cX7_cut 25 = .ok (.iconst 0, 1) := by decide +kernel
theorem dX7_cut_26 : decode cX7_cut 26 = .ok (.putfield 200, 3) := by decide +kernel
theorem dX7_cut_29 : decode cX7_cut 29 = .ok (.aload_n 0, 1) := by decide +kernel
theorem dX7_cut_30 : decode cX7_cut 30 = .ok (.iconst 0, 1) := by decide +kernel
theorem dX7_cut_31 : decode cX7_cut 31 = .ok (.putfield 197, 3) := by decide +kernel
theorem dX7_cut_34 : decode cX7_cut 34 = .ok (.aload_n 0, 1) := by decide +kernel
theorem dX7_cut_35 : decode cX7_cut 35 = .ok (.iconst 0, 1) := by decide +kernel
theorem dX7_cut_36 : decode cX7_cut 36 = .ok (.putfield 185, 3) := by decide +kernel
theorem dX7_cut_39 : decode cX7_cut 39 = .ok (.aload_n 0, 1) := by decide +kernel
theorem dX7_cut_40 : decode cX7_cut 40 = .ok (.iconst 0, 1) := by decide +kernel
theorem dX7_cut_41 : decode cX7_cut 41 = .ok (.putfield 188, 3) := by decide +kernel
theorem dX7_cut_44 : decode cX7_cut 44 = .ok (.aload_n 0, 1) := by decide +kernel
theorem dX7_cut_45 : decode cX7_cut 45 = .ok (.iconst 0, 1) := by decide +kernel
theorem dX7_cut_46 : decode cX7_cut 46 = .ok (.putfield 182, 3) := by decide +kernel
theorem dX7_cut_49 : decode cX7_cut 49 = .ok (.iload_n 1, 1) := by decide +kernel
theorem dX7_cut_50 : decode cX7_cut 50 = .ok (.ifCond .eq 13, 3) := by decide +kernel
theorem dX7_cut_53 : decode cX7_cut 53 = .ok (.aload_n 0, 1) := by decide +kernel
theorem dX7_cut_54 : decode cX7_cut 54 = .ok (.getfield 64, 3) := by decide +kernel
theorem dX7_cut_57 : decode cX7_cut 57 = .ok (.aload_n 0, 1) := by decide +kernel
theorem dX7_cut_58 : decode cX7_cut 58 = .ok (.getfield 179, 3) := by decide +kernel
theorem dX7_cut_61 : decode cX7_cut 61 = .ok (.iconst 0, 1) := by decide +kernel
theorem dX7_cut_62 : decode cX7_cut 62 = .ok (.bastore, 1) := by decide +kernel
theorem dX7_cut_63 : decode cX7_cut 63 = .ok (.iconst 1, 1) := by decide +kernel
theorem dX7_cut_64 : decode cX7_cut 64 = .ok (.ireturn, 1) := by decide +kernel
theorem dX7_on_0 : decode cX7_on 0 = .ok (.aload_n 0, 1) := by decide +kernel
theorem dX7_on_1 : decode cX7_on 1 = .ok (.iconst 0, 1) := by decide +kernel
theorem dX7_on_2 : decode cX7_on 2 = .ok (.putfield 74, 3) := by decide +kernel
theorem dX7_on_5 : decode cX7_on 5 = .ok (.aload_n 0, 1) := by decide +kernel
theorem dX7_on_6 : decode cX7_on 6 = .ok (.getfield 47, 3) := by decide +kernel
theorem dX7_on_9 : decode cX7_on 9 = .ok (.ifCond .eq 5, 3) := by decide +kernel
theorem dX7_on_12 : decode cX7_on 12 = .ok (.iconst 0, 1) := by decide +kernel
theorem dX7_on_13 : decode cX7_on 13 = .ok (.ireturn, 1) := by decide +kernel
theorem dX7_on_14 : decode cX7_on 14 = .ok (.aload_n 0, 1) := by decide +kernel
theorem dX7_on_15 : decode cX7_on 15 = .ok (.iconst 1, 1) := by decide +kernel
theorem dX7_on_16 : decode cX7_on 16 = .ok (.putfield 47, 3) := by decide +kernel
theorem dX7_on_19 : decode cX7_on 19 = .ok (.aload_n 0, 1) := by decide +kernel
theorem dX7_on_20 : decode cX7_on 20 = .ok (.getfield 64, 3) := by decide +kernel
theorem dX7_on_23 : decode cX7_on 23 = .ok (.aload_n 0, 1) := by decide +kernel
theorem dX7_on_24 : decode cX7_on 24 = .ok (.getfield 179, 3) := by decide +kernel
theorem dX7_on_27 : decode cX7_on 27 = .ok (.baload, 1) := by decide +kernel
theorem dX7_on_28 : decode cX7_on 28 = .ok (.ifCond .eq 10, 3) := by decide +kernel
theorem dX7_on_31 : decode cX7_on 31 = .ok (.aload_n 0, 1) := by decide +kernel
theorem dX7_on_32 : decode cX7_on 32 = .ok (.getfield 179, 3) := by decide +kernel
theorem dX7_on_35 : decode cX7_on 35 = .ok (.goto 27, 3) := by decide +kernel
theorem dX7_on_38 : decode cX7_on 38 = .ok (.aload_n 0, 1) := by decide +kernel
theorem dX7_on_39 : decode cX7_on 39 = .ok (.getfield 64, 3) := by decide +kernel
theorem dX7_on_42 : decode cX7_on 42 = .ok (.iconst 1, 1) := by decide +kernel
theorem dX7_on_43 : decode cX7_on 43 = .ok (.aload_n 0, 1) := by decide +kernel
theorem dX7_on_44 : decode cX7_on 44 = .ok (.getfield 179, 3) := by decide +kernel
theorem dX7_on_47 : decode cX7_on 47 = .ok (.isub, 1) := by decide +kernel
theorem dX7_on_48 : decode cX7_on 48 = .ok (.baload, 1) := by decide +kernel
theorem dX7_on_49 : decode cX7_on 49 = .ok (.ifCond .eq 12, 3) := by decide +kernel
theorem dX7_on_52 : decode cX7_on 52 = .ok (.iconst 1, 1) := by decide +kernel
theorem dX7_on_53 : decode cX7_on 53 = .ok (.aload_n 0, 1) := by decide +kernel
theorem dX7_on_54 : decode cX7_on 54 = .ok (.getfield 179, 3) := by decide +kernel
theorem dX7_on_57 : decode cX7_on 57 = .ok (.isub, 1) := by decide +kernel
theorem dX7_on_58 : decode cX7_on 58 = .ok (.goto 4, 3) := by decide +kernel
theorem dX7_on_61 : decode cX7_on 61 = .ok (.iconst (-1), 1) := by decide +kernel
theorem dX7_on_62 : decode cX7_on 62 = .ok (.istore_n 1, 1) := by decide +kernel
theorem dX7_on_63 : decode cX7_on 63 = .ok (.aload_n 0, 1) := by decide +kernel
theorem dX7_on_64 : decode cX7_on 64 = .ok (.iload_n 1, 1) := by decide +kernel
theorem dX7_on_65 : decode cX7_on 65 = .ok (.iconst (-1), 1) := by decide +kernel
theorem dX7_on_66 : decode cX7_on 66 = .ok (.if_icmp .ne 7, 3) := by decide +kernel
theorem dX7_on_69 : decode cX7_on 69 = .ok (.lconst 0, 1) := by decide +kernel
theorem dX7_on_70 : decode cX7_on 70 = .ok (.goto 9, 3) := by decide +kernel
theorem dX7_on_73 : decode cX7_on 73 = .ok (.aload_n 0, 1) := by decide +kernel
theorem dX7_on_74 : decode cX7_on 74 = .ok (.getfield 71, 3) := by decide +kernel
theorem dX7_on_77 : decode cX7_on 77 = .ok (.iload_n 1, 1) := by decide +kernel
theorem dX7_on_78 : decode cX7_on 78 = .ok (.laload, 1) := by decide +kernel
theorem dX7_on_79 : decode cX7_on 79 = .ok (.putfield 163, 3) := by decide +kernel
theorem dX7_on_82 : decode cX7_on 82 = .ok (.iload_n 1, 1) := by decide +kernel
theorem dX7_on_83 : decode cX7_on 83 = .ok (.iconst (-1), 1) := by decide +kernel
theorem dX7_on_84 : decode cX7_on 84 = .ok (.if_icmp .eq 50, 3) := by decide +kernel
theorem dX7_on_87 : decode cX7_on 87 = .ok (.aload_n 0, 1) := by decide +kernel
theorem dX7_on_88 : decode cX7_on 88 = .ok (.getfield 68, 3) := by decide +kernel
theorem dX7_on_91 : decode cX7_on 91 = .ok (.iload_n 1, 1) := by decide +kernel
theorem dX7_on_92 : decode cX7_on 92 = .ok (.baload, 1) := by decide +kernel
theorem dX7_on_93 : decode cX7_on 93 = .ok (.ifCond .eq 41, 3) := by decide +kernel
theorem dX7_on_96 : decode cX7_on 96 = .ok (.aload_n 0, 1) := by decide +kernel
theorem dX7_on_97 : decode cX7_on 97 = .ok (.getfield 220, 3) := by decide +kernel
theorem dX7_on_100 : decode cX7_on 100 = .ok (.sipush 4800, 3) := by decide +kernel
theorem dX7_on_103 : decode cX7_on 103 = .ok (.if_icmp .ge 31, 3) := by decide +kernel
theorem dX7_on_106 : decode cX7_on 106 = .ok (.aload_n 0, 1) := by decide +kernel
theorem dX7_on_107 : decode cX7_on 107 = .ok (.aload_n 0, 1) := by decide +kernel
theorem dX7_on_108 : decode cX7_on 108 = .ok (.getfield 163, 3) := by decide +kernel
theorem dX7_on_111 : decode cX7_on 111 = .ok (.lconst 1, 1) := by decide +kernel
theorem dX7_on_112 : decode cX7_on 112 = .ok (.ladd, 1) := by decide +kernel
theorem dX7_on_113 : decode cX7_on 113 = .ok (.aload_n 0, 1) := by decide +kernel
theorem dX7_on_114 : decode cX7_on 114 = .ok (.getfield 130, 3) := by decide +kernel
theorem dX7_on_117 : decode cX7_on 117 = .ok (.lcmp, 1) := by decide +kernel
theorem dX7_on_118 : decode cX7_on 118 = .ok (.ifCond .ne 7, 3) := by decide +kernel
theorem dX7_on_121 : decode cX7_on 121 = .ok (.lconst 0, 1) := by decide +kernel
theorem dX7_on_122 : decode cX7_on 122 = .ok (.goto 9, 3) := by decide +kernel
theorem dX7_on_125 : decode cX7_on 125 = .ok (.aload_n 0, 1) := by decide +kernel
theorem dX7_on_126 : decode cX7_on 126 = .ok (.getfield 163, 3) := by decide +kernel
theorem dX7_on_129 : decode cX7_on 129 = .ok (.lconst 1, 1) := by decide +kernel
theorem dX7_on_130 : decode cX7_on 130 = .ok (.ladd, 1) := by decide +kernel
theorem dX7_on_131 : decode cX7_on 131 = .ok (.putfield 163, 3) := by decide +kernel
theorem dX7_on_134 : decode cX7_on 134 = .ok (.aload_n 0, 1) := by decide +kernel
theorem dX7_on_135 : decode cX7_on 135 = .ok (.aload_n 0, 1) := by decide +kernel
theorem dX7_on_136 : decode cX7_on 136 = .ok (.getfield 220, 3) := by decide +kernel
theorem dX7_on_139 : decode cX7_on 139 = .ok (.sipush 1440, 3) := by decide +kernel
theorem dX7_on_142 : decode cX7_on 142 = .ok (.if_icmp .lt 7, 3) := by decide +kernel
theorem dX7_on_145 : decode cX7_on 145 = .ok (.iconst 1, 1) := by decide +kernel
theorem dX7_on_146 : decode cX7_on 146 = .ok (.goto 4, 3) := by decide +kernel
theorem dX7_on_149 : decode cX7_on 149 = .ok (.iconst 0, 1) := by decide +kernel
theorem dX7_on_150 : decode cX7_on 150 = .ok (.putfield 200, 3) := by decide +kernel
theorem dX7_on_153 : decode cX7_on 153 = .ok (.iconst 1, 1) := by decide +kernel
theorem dX7_on_154 : decode cX7_on 154 = .ok (.ireturn, 1) := by decide +kernel
theorem dX7_angle_0 : decode cX7_angle 0 = .ok (.aload_n 0, 1) := by decide +kernel
theorem dX7_angle_1 : decode cX7_angle 1 = .ok (.iconst 0, 1) := by decide +kernel
theorem dX7_angle_2 : decode cX7_angle 2 = .ok (.putfield 74, 3) := by decide +kernel
theorem dX7_angle_5 : decode cX7_angle 5 = .ok (.aload_n 0, 1) := by decide +kernel
theorem dX7_angle_6 : decode cX7_angle 6 = .ok (.getfield 220, 3) := by decide +kernel
theorem dX7_angle_9 : decode cX7_angle 9 = .ok (.i2d, 1) := by decide +kernel
theorem dX7_angle_10 : decode cX7_angle 10 = .ok (.ldc2_w 230, 3) := by decide +kernel
theorem dX7_angle_13 : decode cX7_angle 13 = .ok (.ddiv, 1) := by decide +kernel
theorem dX7_angle_14 : decode cX7_angle 14 = .ok (.dreturn, 1) := by decide +kernel
theorem dX7_left_0 : decode cX7_left 0 = .ok (.aload_n 0, 1) := by decide +kernel
theorem dX7_left_1 : decode cX7_left 1 = .ok (.iconst 0, 1) := by decide +kernel
theorem dX7_left_2 : decode cX7_left 2 = .ok (.putfield 74, 3) := by decide +kernel
theorem dX7_left_5 : decode cX7_left 5 = .ok (.aload_n 0, 1) := by decide +kernel
theorem dX7_left_6 : decode cX7_left 6 = .ok (.getfield 151, 3) := by decide +kernel
theorem dX7_left_9 : decode cX7_left 9 = .ok (.iconst 2, 1) := by decide +kernel
theorem dX7_left_10 : decode cX7_left 10 = .ok (.if_icmp .ne 14, 3) := by decide +kernel
theorem dX7_left_13 : decode cX7_left 13 = .ok (.aload_n 0, 1) := by decide +kernel
theorem dX7_left_14 : decode cX7_left 14 = .ok (.getfield 170, 3) := by decide +kernel
theorem dX7_left_17 : decode cX7_left 17 = .ok (.i2f, 1) := by decide +kernel
theorem dX7_left_18 : decode cX7_left 18 = .ok (.ldc 246, 2) := by decide +kernel
theorem dX7_left_20 : decode cX7_left 20 = .ok (.fdiv, 1) := by decide +kernel
theorem dX7_left_21 : decode cX7_left 21 = .ok (.goto 4, 3) := by decide +kernel
theorem dX7_left_24 : decode cX7_left 24 = .ok (.fconst 0, 1) := by decide +kernel
theorem dX7_left_25 : decode cX7_left 25 = .ok (.freturn, 1) := by decide +kernel
theorem dX7_roll_0 : decode cX7_roll 0 = .ok (.aload_n 0, 1) := by decide +kernel
theorem dX7_roll_1 : decode cX7_roll 1 = .ok (.iconst 0, 1) := by decide +kernel
theorem dX7_roll_2 : decode cX7_roll 2 = .ok (.putfield 74, 3) := by decide +kernel
theorem dX7_roll_5 : decode cX7_roll 5 = .ok (.dload_n 1, 1) := by decide +kernel
theorem dX7_roll_6 : decode cX7_roll 6 = .ok (.ldc2_w 247, 3) := by decide +kernel
theorem dX7_roll_9 : decode cX7_roll 9 = .ok (.dcmp .l, 1) := by decide +kernel
theorem dX7_roll_10 : decode cX7_roll 10 = .ok (.ifCond .lt 11, 3) := by decide +kernel
theorem dX7_roll_13 : decode cX7_roll 13 = .ok (.dload_n 1, 1) := by decide +kernel
theorem dX7_roll_14 : decode cX7_roll 14 = .ok (.ldc2_w 249, 3) := by decide +kernel
theorem dX7_roll_17 : decode cX7_roll 17 = .ok (.dcmp .g, 1) := by decide +kernel
theorem dX7_roll_18 : decode cX7_roll 18 = .ok (.ifCond .le 5, 3) := by decide +kernel
theorem dX7_roll_21 : decode cX7_roll 21 = .ok (.dconst 0, 1) := by decide +kernel
theorem dX7_roll_22 : decode cX7_roll 22 = .ok (.dreturn, 1) := by decide +kernel
theorem dX7_roll_23 : decode cX7_roll 23 = .ok (.aload_n 0, 1) := by decide +kernel
theorem dX7_roll_24 : decode cX7_roll 24 = .ok (.getfield 191, 3) := by decide +kernel
theorem dX7_roll_27 : decode cX7_roll 27 = .ok (.dload_n 1, 1) := by decide +kernel
theorem dX7_roll_28 : decode cX7_roll 28 = .ok (.ldc2_w 218, 3) := by decide +kernel
theorem dX7_roll_31 : decode cX7_roll 31 = .ok (.dmul, 1) := by decide +kernel
theorem dX7_roll_32 : decode cX7_roll 32 = .ok (.d2l, 1) := by decide +kernel
theorem dX7_roll_33 : decode cX7_roll 33 = .ok (.lmul, 1) := by decide +kernel
theorem dX7_roll_34 : decode cX7_roll 34 = .ok (.ldc2_w 251, 3) := by decide +kernel
theorem dX7_roll_37 : decode cX7_roll 37 = .ok (.lrem, 1) := by decide +kernel
theorem dX7_roll_38 : decode cX7_roll 38 = .ok (.l2d, 1) := by decide +kernel
theorem dX7_roll_39 : decode cX7_roll 39 = .ok (.ldc2_w 253, 3) := by decide +kernel
theorem dX7_roll_42 : decode cX7_roll 42 = .ok (.ddiv, 1) := by decide +kernel
theorem dX7_roll_43 : decode cX7_roll 43 = .ok (.dreturn, 1) := by decide +kernel
theorem dX7_letOff_0 : decode cX7_letOff 0 = .ok (.aload_n 0, 1) := by decide +kernel
theorem dX7_letOff_1 : decode cX7_letOff 1 = .ok (.iconst 0, 1) := by decide +kernel
theorem dX7_letOff_2 : decode cX7_letOff 2 = .ok (.putfield 74, 3) := by decide +kernel
theorem dX7_letOff_5 : decode cX7_letOff 5 = .ok (.fload_n 1, 1) := by decide +kernel
theorem dX7_letOff_6 : decode cX7_letOff 6 = .ok (.ldc 255, 2) := by decide +kernel
theorem dX7_letOff_8 : decode cX7_letOff 8 = .ok (.fcmp .l, 1) := by decide +kernel
theorem dX7_letOff_9 : decode cX7_letOff 9 = .ok (.ifCond .lt 11, 3) := by decide +kernel
theorem dX7_letOff_12 : decode cX7_letOff 12 = .ok (.fload_n 1, 1) := by decide +kernel
theorem dX7_letOff_13 : decode cX7_letOff 13 = .ok (.ldc_w 256, 3) := by decide +kernel
theorem dX7_letOff_16 : decode cX7_letOff 16 = .ok (.fcmp .g, 1) := by decide +kernel
theorem dX7_letOff_17 : decode cX7_letOff 17 = .ok (.ifCond .le 5, 3) := by decide +kernel
theorem dX7_letOff_20 : decode cX7_letOff 20 = .ok (.iconst 0, 1) := by decide +kernel
theorem dX7_letOff_21 : decode cX7_letOff 21 = .ok (.ireturn, 1) := by decide +kernel
theorem dX7_letOff_22 : decode cX7_letOff 22 = .ok (.fload_n 1, 1) := by decide +kernel
theorem dX7_letOff_23 : decode cX7_letOff 23 = .ok (.f2d, 1) := by decide +kernel
theorem dX7_letOff_24 : decode cX7_letOff 24 = .ok (.ldc2_w 218, 3) := by decide +kernel
theorem dX7_letOff_27 : decode cX7_letOff 27 = .ok (.dmul, 1) := by decide +kernel
theorem dX7_letOff_28 : decode cX7_letOff 28 = .ok (.d2l, 1) := by decide +kernel
theorem dX7_letOff_29 : decode cX7_letOff 29 = .ok (.ldc2_w 257, 3) := by decide +kernel
theorem dX7_letOff_32 : decode cX7_letOff 32 = .ok (.lrem, 1) := by decide +kernel
theorem dX7_letOff_33 : decode cX7_letOff 33 = .ok (.l2i, 1) := by decide +kernel
theorem dX7_letOff_34 : decode cX7_letOff 34 = .ok (.ireturn, 1) := by decide +kernel
theorem dX7_state_0 : decode cX7_state 0 = .ok (.aload_n 0, 1) := by decide +kernel
theorem dX7_state_1 : decode cX7_state 1 = .ok (.iconst 0, 1) := by decide +kernel
theorem dX7_state_2 : decode cX7_state 2 = .ok (.putfield 74, 3) := by decide +kernel
theorem dX7_state_5 : decode cX7_state 5 = .ok (.iload_n 1, 1) := by decide +kernel
theorem dX7_state_6 : decode cX7_state 6 = .ok (.tableswitch 99 0 7 #[46, 51, 56, 61, 66, 71, 76, 86], 46) := by decide +kernel
theorem dX7_state_52 : decode cX7_state 52 = .ok (.aload_n 0, 1) := by decide +kernel
theorem dX7_state_53 : decode cX7_state 53 = .ok (.getfield 151, 3) := by decide +kernel
theorem dX7_state_56 : decode cX7_state 56 = .ok (.ireturn, 1) := by decide +kernel
theorem dX7_state_57 : decode cX7_state 57 = .ok (.aload_n 0, 1) := by decide +kernel
theorem dX7_state_58 : decode cX7_state 58 = .ok (.getfield 185, 3) := by decide +kernel
theorem dX7_state_61 : decode cX7_state 61 = .ok (.ireturn, 1) := by decide +kernel
theorem dX7_state_62 : decode cX7_state 62 = .ok (.aload_n 0, 1) := by decide +kernel
theorem dX7_state_63 : decode cX7_state 63 = .ok (.getfield 188, 3) := by decide +kernel
theorem dX7_state_66 : decode cX7_state 66 = .ok (.ireturn, 1) := by decide +kernel
theorem dX7_state_67 : decode cX7_state 67 = .ok (.aload_n 0, 1) := by decide +kernel
theorem dX7_state_68 : decode cX7_state 68 = .ok (.getfield 200, 3) := by decide +kernel
theorem dX7_state_71 : decode cX7_state 71 = .ok (.ireturn, 1) := by decide +kernel
theorem dX7_state_72 : decode cX7_state 72 = .ok (.aload_n 0, 1) := by decide +kernel
theorem dX7_state_73 : decode cX7_state 73 = .ok (.getfield 210, 3) := by decide +kernel
theorem dX7_state_76 : decode cX7_state 76 = .ok (.ireturn, 1) := by decide +kernel
theorem dX7_state_77 : decode cX7_state 77 = .ok (.aload_n 0, 1) := by decide +kernel
theorem dX7_state_78 : decode cX7_state 78 = .ok (.getfield 173, 3) := by decide +kernel
theorem dX7_state_81 : decode cX7_state 81 = .ok (.ireturn, 1) := by decide +kernel
theorem dX7_state_82 : decode cX7_state 82 = .ok (.aload_n 0, 1) := by decide +kernel
theorem dX7_state_83 : decode cX7_state 83 = .ok (.getfield 191, 3) := by decide +kernel
theorem dX7_state_86 : decode cX7_state 86 = .ok (.ldc2_w 259, 3) := by decide +kernel
theorem dX7_state_89 : decode cX7_state 89 = .ok (.ldiv, 1) := by decide +kernel
theorem dX7_state_90 : decode cX7_state 90 = .ok (.l2i, 1) := by decide +kernel
theorem dX7_state_91 : decode cX7_state 91 = .ok (.ireturn, 1) := by decide +kernel
theorem dX7_state_92 : decode cX7_state 92 = .ok (.aload_n 0, 1) := by decide +kernel
theorem dX7_state_93 : decode cX7_state 93 = .ok (.getfield 47, 3) := by decide +kernel
theorem dX7_state_96 : decode cX7_state 96 = .ok (.ifCond .eq 7, 3) := by decide +kernel
theorem dX7_state_99 : decode cX7_state 99 = .ok (.iconst 1, 1) := by decide +kernel
theorem dX7_state_100 : decode cX7_state 100 = .ok (.goto 4, 3) := by decide +kernel
theorem dX7_state_103 : decode cX7_state 103 = .ok (.iconst 0, 1) := by decide +kernel
theorem dX7_state_104 : decode cX7_state 104 = .ok (.ireturn, 1) := by decide +kernel
theorem dX7_state_105 : decode cX7_state 105 = .ok (.iconst (-1), 1) := by decide +kernel
theorem dX7_state_106 : decode cX7_state 106 = .ok (.ireturn, 1) := by decide +kernel
theorem dX7_count_0 : decode cX7_count 0 = .ok (.aload_n 0, 1) := by decide +kernel
theorem dX7_count_1 : decode cX7_count 1 = .ok (.iconst 0, 1) := by decide +kernel
theorem dX7_count_2 : decode cX7_count 2 = .ok (.putfield 74, 3) := by decide +kernel
theorem dX7_count_5 : decode cX7_count 5 = .ok (.iload_n 1, 1) := by decide +kernel
theorem dX7_count_6 : decode cX7_count 6 = .ok (.ifCond .ne 10, 3) := by decide +kernel
theorem dX7_count_9 : decode cX7_count 9 = .ok (.aload_n 0, 1) := by decide +kernel
theorem dX7_count_10 : decode cX7_count 10 = .ok (.getfield 163, 3) := by decide +kernel
theorem dX7_count_13 : decode cX7_count 13 = .ok (.goto 30, 3) := by decide +kernel
theorem dX7_count_16 : decode cX7_count 16 = .ok (.iload_n 1, 1) := by decide +kernel
theorem dX7_count_17 : decode cX7_count 17 = .ok (.iconst 1, 1) := by decide +kernel
theorem dX7_count_18 : decode cX7_count 18 = .ok (.if_icmp .ne 10, 3) := by decide +kernel
theorem dX7_count_21 : decode cX7_count 21 = .ok (.aload_n 0, 1) := by decide +kernel
theorem dX7_count_22 : decode cX7_count 22 = .ok (.getfield 194, 3) := by decide +kernel
theorem dX7_count_25 : decode cX7_count 25 = .ok (.goto 18, 3) := by decide +kernel
theorem dX7_count_28 : decode cX7_count 28 = .ok (.iload_n 1, 1) := by decide +kernel
theorem dX7_count_29 : decode cX7_count 29 = .ok (.iconst 2, 1) := by decide +kernel
theorem dX7_count_30 : decode cX7_count 30 = .ok (.if_icmp .ne 10, 3) := by decide +kernel
theorem dX7_count_33 : decode cX7_count 33 = .ok (.aload_n 0, 1) := by decide +kernel
theorem dX7_count_34 : decode cX7_count 34 = .ok (.getfield 213, 3) := by decide +kernel
theorem dX7_count_37 : decode cX7_count 37 = .ok (.goto 6, 3) := by decide +kernel
theorem dX7_count_40 : decode cX7_count 40 = .ok (.ldc2_w 261, 3) := by decide +kernel
theorem dX7_count_43 : decode cX7_count 43 = .ok (.lreturn, 1) := by decide +kernel
theorem dX7_cloth_0 : decode cX7_cloth 0 = .ok (.aload_n 0, 1) := by decide +kernel
theorem dX7_cloth_1 : decode cX7_cloth 1 = .ok (.iconst 0, 1) := by decide +kernel
theorem dX7_cloth_2 : decode cX7_cloth 2 = .ok (.putfield 74, 3) := by decide +kernel
theorem dX7_cloth_5 : decode cX7_cloth 5 = .ok (.iload_n 1, 1) := by decide +kernel
theorem dX7_cloth_6 : decode cX7_cloth 6 = .ok (.ifCond .lt 11, 3) := by decide +kernel
theorem dX7_cloth_9 : decode cX7_cloth 9 = .ok (.iload_n 1, 1) := by decide +kernel
theorem dX7_cloth_10 : decode cX7_cloth 10 = .ok (.aload_n 0, 1) := by decide +kernel
theorem dX7_cloth_11 : decode cX7_cloth 11 = .ok (.getfield 182, 3) := by decide +kernel
theorem dX7_cloth_14 : decode cX7_cloth 14 = .ok (.if_icmp .lt 5, 3) := by decide +kernel
theorem dX7_cloth_17 : decode cX7_cloth 17 = .ok (.iconst (-1), 1) := by decide +kernel
theorem dX7_cloth_18 : decode cX7_cloth 18 = .ok (.ireturn, 1) := by decide +kernel
theorem dX7_cloth_19 : decode cX7_cloth 19 = .ok (.aload_n 0, 1) := by decide +kernel
theorem dX7_cloth_20 : decode cX7_cloth 20 = .ok (.getfield 182, 3) := by decide +kernel
theorem dX7_cloth_23 : decode cX7_cloth 23 = .ok (.iconst 1, 1) := by decide +kernel
theorem dX7_cloth_24 : decode cX7_cloth 24 = .ok (.isub, 1) := by decide +kernel
theorem dX7_cloth_25 : decode cX7_cloth 25 = .ok (.iload_n 1, 1) := by decide +kernel
theorem dX7_cloth_26 : decode cX7_cloth 26 = .ok (.isub, 1) := by decide +kernel
theorem dX7_cloth_27 : decode cX7_cloth 27 = .ok (.istore_n 3, 1) := by decide +kernel
theorem dX7_cloth_28 : decode cX7_cloth 28 = .ok (.iload_n 2, 1) := by decide +kernel
theorem dX7_cloth_29 : decode cX7_cloth 29 = .ok (.ifCond .ne 12, 3) := by decide +kernel
theorem dX7_cloth_32 : decode cX7_cloth 32 = .ok (.aload_n 0, 1) := by decide +kernel
theorem dX7_cloth_33 : decode cX7_cloth 33 = .ok (.getfield 55, 3) := by decide +kernel
theorem dX7_cloth_36 : decode cX7_cloth 36 = .ok (.iload_n 3, 1) := by decide +kernel
theorem dX7_cloth_37 : decode cX7_cloth 37 = .ok (.iaload, 1) := by decide +kernel
theorem dX7_cloth_38 : decode cX7_cloth 38 = .ok (.goto 32, 3) := by decide +kernel
theorem dX7_cloth_41 : decode cX7_cloth 41 = .ok (.iload_n 2, 1) := by decide +kernel
theorem dX7_cloth_42 : decode cX7_cloth 42 = .ok (.iconst 1, 1) := by decide +kernel
theorem dX7_cloth_43 : decode cX7_cloth 43 = .ok (.if_icmp .ne 12, 3) := by decide +kernel
theorem dX7_cloth_46 : decode cX7_cloth 46 = .ok (.aload_n 0, 1) := by decide +kernel
theorem dX7_cloth_47 : decode cX7_cloth 47 = .ok (.getfield 58, 3) := by decide +kernel
theorem dX7_cloth_50 : decode cX7_cloth 50 = .ok (.iload_n 3, 1) := by decide +kernel
theorem dX7_cloth_51 : decode cX7_cloth 51 = .ok (.iaload, 1) := by decide +kernel
theorem dX7_cloth_52 : decode cX7_cloth 52 = .ok (.goto 18, 3) := by decide +kernel
theorem dX7_cloth_55 : decode cX7_cloth 55 = .ok (.iload_n 2, 1) := by decide +kernel
theorem dX7_cloth_56 : decode cX7_cloth 56 = .ok (.iconst 2, 1) := by decide +kernel
theorem dX7_cloth_57 : decode cX7_cloth 57 = .ok (.if_icmp .ne 12, 3) := by decide +kernel
theorem dX7_cloth_60 : decode cX7_cloth 60 = .ok (.aload_n 0, 1) := by decide +kernel
theorem dX7_cloth_61 : decode cX7_cloth 61 = .ok (.getfield 61, 3) := by decide +kernel
theorem dX7_cloth_64 : decode cX7_cloth 64 = .ok (.iload_n 3, 1) := by decide +kernel
theorem dX7_cloth_65 : decode cX7_cloth 65 = .ok (.iaload, 1) := by decide +kernel
theorem dX7_cloth_66 : decode cX7_cloth 66 = .ok (.goto 4, 3) := by decide +kernel
theorem dX7_cloth_69 : decode cX7_cloth 69 = .ok (.iconst (-1), 1) := by decide +kernel
theorem dX7_cloth_70 : decode cX7_cloth 70 = .ok (.ireturn, 1) := by decide +kernel
theorem dJ9_floorDiv_f86c9_0 : decode cJ9_floorDiv_f86c9 0 = .ok (.lload_n 0, 1) := by decide +kernel
theorem dJ9_floorDiv_f86c9_1 : decode cJ9_floorDiv_f86c9 1 = .ok (.lload_n 2, 1) := by decide +kernel
theorem dJ9_floorDiv_f86c9_2 : decode cJ9_floorDiv_f86c9 2 = .ok (.ldiv, 1) := by decide +kernel
theorem dJ9_floorDiv_f86c9_3 : decode cJ9_floorDiv_f86c9 3 = .ok (.lstore 4, 2) := by decide +kernel
theorem dJ9_floorDiv_f86c9_5 : decode cJ9_floorDiv_f86c9 5 = .ok (.lload_n 0, 1) := by decide +kernel
theorem dJ9_floorDiv_f86c9_6 : decode cJ9_floorDiv_f86c9 6 = .ok (.lload_n 2, 1) := by decide +kernel
theorem dJ9_floorDiv_f86c9_7 : decode cJ9_floorDiv_f86c9 7 = .ok (.lxor, 1) := by decide +kernel
theorem dJ9_floorDiv_f86c9_8 : decode cJ9_floorDiv_f86c9 8 = .ok (.lconst 0, 1) := by decide +kernel
theorem dJ9_floorDiv_f86c9_9 : decode cJ9_floorDiv_f86c9 9 = .ok (.lcmp, 1) := by decide +kernel
theorem dJ9_floorDiv_f86c9_10 : decode cJ9_floorDiv_f86c9 10 = .ok (.ifCond .ge 17, 3) := by decide +kernel
theorem dJ9_floorDiv_f86c9_13 : decode cJ9_floorDiv_f86c9 13 = .ok (.lload 4, 2) := by decide +kernel
theorem dJ9_floorDiv_f86c9_15 : decode cJ9_floorDiv_f86c9 15 = .ok (.lload_n 2, 1) := by decide +kernel
theorem dJ9_floorDiv_f86c9_16 : decode cJ9_floorDiv_f86c9 16 = .ok (.lmul, 1) := by decide +kernel
theorem dJ9_floorDiv_f86c9_17 : decode cJ9_floorDiv_f86c9 17 = .ok (.lload_n 0, 1) := by decide +kernel
theorem dJ9_floorDiv_f86c9_18 : decode cJ9_floorDiv_f86c9 18 = .ok (.lcmp, 1) := by decide +kernel
theorem dJ9_floorDiv_f86c9_19 : decode cJ9_floorDiv_f86c9 19 = .ok (.ifCond .eq 8, 3) := by decide +kernel
theorem dJ9_floorDiv_f86c9_22 : decode cJ9_floorDiv_f86c9 22 = .ok (.lload 4, 2) := by decide +kernel
theorem dJ9_floorDiv_f86c9_24 : decode cJ9_floorDiv_f86c9 24 = .ok (.lconst 1, 1) := by decide +kernel
theorem dJ9_floorDiv_f86c9_25 : decode cJ9_floorDiv_f86c9 25 = .ok (.lsub, 1) := by decide +kernel
theorem dJ9_floorDiv_f86c9_26 : decode cJ9_floorDiv_f86c9 26 = .ok (.lreturn, 1) := by decide +kernel
theorem dJ9_floorDiv_f86c9_27 : decode cJ9_floorDiv_f86c9 27 = .ok (.lload 4, 2) := by decide +kernel
theorem dJ9_floorDiv_f86c9_29 : decode cJ9_floorDiv_f86c9 29 = .ok (.lreturn, 1) := by decide +kernel
theorem dJ9_floorMod_7cf53_0 : decode cJ9_floorMod_7cf53 0 = .ok (.iload_n 0, 1) := by decide +kernel
theorem dJ9_floorMod_7cf53_1 : decode cJ9_floorMod_7cf53 1 = .ok (.iload_n 1, 1) := by decide +kernel
theorem dJ9_floorMod_7cf53_2 : decode cJ9_floorMod_7cf53 2 = .ok (.irem, 1) := by decide +kernel
theorem dJ9_floorMod_7cf53_3 : decode cJ9_floorMod_7cf53 3 = .ok (.istore_n 2, 1) := by decide +kernel
theorem dJ9_floorMod_7cf53_4 : decode cJ9_floorMod_7cf53 4 = .ok (.iload_n 0, 1) := by decide +kernel
theorem dJ9_floorMod_7cf53_5 : decode cJ9_floorMod_7cf53 5 = .ok (.iload_n 1, 1) := by decide +kernel
theorem dJ9_floorMod_7cf53_6 : decode cJ9_floorMod_7cf53 6 = .ok (.ixor, 1) := by decide +kernel
theorem dJ9_floorMod_7cf53_7 : decode cJ9_floorMod_7cf53 7 = .ok (.ifCond .ge 11, 3) := by decide +kernel
theorem dJ9_floorMod_7cf53_10 : decode cJ9_floorMod_7cf53 10 = .ok (.iload_n 2, 1) := by decide +kernel
theorem dJ9_floorMod_7cf53_11 : decode cJ9_floorMod_7cf53 11 = .ok (.ifCond .eq 7, 3) := by decide +kernel
theorem dJ9_floorMod_7cf53_14 : decode cJ9_floorMod_7cf53 14 = .ok (.iload_n 2, 1) := by decide +kernel
theorem dJ9_floorMod_7cf53_15 : decode cJ9_floorMod_7cf53 15 = .ok (.iload_n 1, 1) := by decide +kernel
theorem dJ9_floorMod_7cf53_16 : decode cJ9_floorMod_7cf53 16 = .ok (.iadd, 1) := by decide +kernel
theorem dJ9_floorMod_7cf53_17 : decode cJ9_floorMod_7cf53 17 = .ok (.ireturn, 1) := by decide +kernel
theorem dJ9_floorMod_7cf53_18 : decode cJ9_floorMod_7cf53 18 = .ok (.iload_n 2, 1) := by decide +kernel
theorem dJ9_floorMod_7cf53_19 : decode cJ9_floorMod_7cf53 19 = .ok (.ireturn, 1) := by decide +kernel
theorem dJ9_max_f86c9_0 : decode cJ9_max_f86c9 0 = .ok (.lload_n 0, 1) := by decide +kernel
theorem dJ9_max_f86c9_1 : decode cJ9_max_f86c9 1 = .ok (.lload_n 2, 1) := by decide +kernel
theorem dJ9_max_f86c9_2 : decode cJ9_max_f86c9 2 = .ok (.lcmp, 1) := by decide +kernel
theorem dJ9_max_f86c9_3 : decode cJ9_max_f86c9 3 = .ok (.ifCond .lt 7, 3) := by decide +kernel
theorem dJ9_max_f86c9_6 : decode cJ9_max_f86c9 6 = .ok (.lload_n 0, 1) := by decide +kernel
theorem dJ9_max_f86c9_7 : decode cJ9_max_f86c9 7 = .ok (.goto 4, 3) := by decide +kernel
theorem dJ9_max_f86c9_10 : decode cJ9_max_f86c9 10 = .ok (.lload_n 2, 1) := by decide +kernel
theorem dJ9_max_f86c9_11 : decode cJ9_max_f86c9 11 = .ok (.lreturn, 1) := by decide +kernel
theorem dJ9_min_7cf53_0 : decode cJ9_min_7cf53 0 = .ok (.iload_n 0, 1) := by decide +kernel
theorem dJ9_min_7cf53_1 : decode cJ9_min_7cf53 1 = .ok (.iload_n 1, 1) := by decide +kernel
theorem dJ9_min_7cf53_2 : decode cJ9_min_7cf53 2 = .ok (.if_icmp .gt 7, 3) := by decide +kernel
theorem dJ9_min_7cf53_5 : decode cJ9_min_7cf53 5 = .ok (.iload_n 0, 1) := by decide +kernel
theorem dJ9_min_7cf53_6 : decode cJ9_min_7cf53 6 = .ok (.goto 4, 3) := by decide +kernel
theorem dJ9_min_7cf53_9 : decode cJ9_min_7cf53 9 = .ok (.iload_n 1, 1) := by decide +kernel
theorem dJ9_min_7cf53_10 : decode cJ9_min_7cf53 10 = .ok (.ireturn, 1) := by decide +kernel
theorem dJ9_min_f86c9_0 : decode cJ9_min_f86c9 0 = .ok (.lload_n 0, 1) := by decide +kernel
theorem dJ9_min_f86c9_1 : decode cJ9_min_f86c9 1 = .ok (.lload_n 2, 1) := by decide +kernel
theorem dJ9_min_f86c9_2 : decode cJ9_min_f86c9 2 = .ok (.lcmp, 1) := by decide +kernel
theorem dJ9_min_f86c9_3 : decode cJ9_min_f86c9 3 = .ok (.ifCond .gt 7, 3) := by decide +kernel
theorem dJ9_min_f86c9_6 : decode cJ9_min_f86c9 6 = .ok (.lload_n 0, 1) := by decide +kernel
theorem dJ9_min_f86c9_7 : decode cJ9_min_f86c9 7 = .ok (.goto 4, 3) := by decide +kernel
theorem dJ9_min_f86c9_10 : decode cJ9_min_f86c9 10 = .ok (.lload_n 2, 1) := by decide +kernel
theorem dJ9_min_f86c9_11 : decode cJ9_min_f86c9 11 = .ok (.lreturn, 1) := by decide +kernel
set_option maxRecDepth 20000 in
theorem ggL_turn_X6_turn : GoodIn wsL_turn wsX6_turn := goodIn_ca (goodIn_ca (goodIn_r _ [7, 8, 9, 10, 11, 12, 13, 14, 15, 16, 17, 18, 19, 20, 21, 22, 6, 23, 24, 25, 26, 27, 28, 29, 30, 31, 32, 33, 34, 35, 36, 37, 38, 39, 40, 41, 42, 43, 44, 45, 46, 47, 48, 49, 50, 51, 52, 53, 54, 55, 56, 57, 58, 59, 60, 61, 62, 63, 64, 65, 66, 67, 68, 69, 70, 71, 72, 73, 74, 75, 76, 77, 78, 79, 80, 81, 82, 83, 84, 85, 86, 87, 88, 89, 90, 91, 92, 93, 94, 95, 96, 97, 98, 99, 100, 101, 102, 103, 104, 105, 106, 107, 108, 109, 110, 111, 112, 113, 114, 115, 116, 117, 118, 119, 120, 121, 122, 123, 124, 125, 126, 127, 128, 129, 130, 131, 132, 133, 134, 135, 136, 137, 138, 139, 140, 141, 142, 143, 144, 145, 146, 147, 148, 149, 150, 151, 152, 153, 154, 155, 156, 157, 158, 159, 160, 161, 162, 163, 164, 165, 166, 167, 168, 169, 170, 171, 172, 173, 174, 175, 176, 177, 178, 179, 180, 181, 182, 183, 184, 185, 186, 187, 188] (by decide +kernel) (by decide +kernel)) (goodIn_sub (fun _ h => List.mem_cons_of_mem _ (List.mem_append_left _ (List.mem_append_right _ h))) (by decide +kernel))) (goodIn_sub (fun _ h => List.mem_cons_of_mem _ (List.mem_append_right _ h)) (by decide +kernel))
set_option maxRecDepth 20000 in
theorem gL_turn_X6_turn : GoodIn wsL_turn (wsV RL 7 RX6 yX6_turn wsX6_turn) := goodIn_app (goodIn_of _ (by decide +kernel)) ggL_turn_X6_turn
