theorem dX5_init_0 : decode cX5_init 0 = .ok (.aload_n 0, 1) := by decide +kernel
theorem dX5_init_1 : decode cX5_init 1 = .ok (.invokespecial 1, 3) := by decide +kernel
theorem dX5_init_4 : decode cX5_init 4 = .ok (.aload_n 0, 1) := by decide +kernel
theorem dX5_init_5 : decode cX5_init 5 = .ok (.bipush 120, 2) := by decide +kernel
theorem dX5_init_7 : decode cX5_init 7 = .ok (.newarray .int, 2) := by decide +kernel
theorem dX5_init_9 : decode cX5_init 9 = .ok (.putfield 7, 3) := by decide +kernel
theorem dX5_init_12 : decode cX5_init 12 = .ok (.aload_n 0, 1) := by decide +kernel
theorem dX5_init_13 : decode cX5_init 13 = .ok (.bipush 120, 2) := by decide +kernel
theorem dX5_init_15 : decode cX5_init 15 = .ok (.newarray .int, 2) := by decide +kernel
theorem dX5_init_17 : decode cX5_init 17 = .ok (.putfield 13, 3) := by decide +kernel
theorem dX5_init_20 : decode cX5_init 20 = .ok (.aload_n 0, 1) := by decide +kernel
theorem dX5_init_21 : decode cX5_init 21 = .ok (.bipush 120, 2) := by decide +kernel
theorem dX5_init_23 : decode cX5_init 23 = .ok (.newarray .int, 2) := by decide +kernel
theorem dX5_init_25 : decode cX5_init 25 = .ok (.putfield 16, 3) := by decide +kernel
theorem dX5_init_28 : decode cX5_init 28 = .ok (.aload_n 0, 1) := by decide +kernel
theorem dX5_init_29 : decode cX5_init 29 = .ok (.bipush 120, 2) := by decide +kernel
theorem dX5_init_31 : decode cX5_init 31 = .ok (.newarray .boolean, 2) := by decide +kernel
theorem dX5_init_33 : decode cX5_init 33 = .ok (.putfield 19, 3) := by decide +kernel
theorem dX5_init_36 : decode cX5_init 36 = .ok (.aload_n 0, 1) := by decide +kernel
theorem dX5_init_37 : decode cX5_init 37 = .ok (.bipush 24, 2) := by decide +kernel
theorem dX5_init_39 : decode cX5_init 39 = .ok (.newarray .int, 2) := by decide +kernel
theorem dX5_init_41 : decode cX5_init 41 = .ok (.putfield 23, 3) := by decide +kernel
theorem dX5_init_44 : decode cX5_init 44 = .ok (.aload_n 0, 1) := by decide +kernel
theorem dX5_init_45 : decode cX5_init 45 = .ok (.bipush 6, 2) := by decide +kernel
theorem dX5_init_47 : decode cX5_init 47 = .ok (.newarray .int, 2) := by decide +kernel
theorem dX5_init_49 : decode cX5_init 49 = .ok (.putfield 26, 3) := by decide +kernel
theorem dX5_init_52 : decode cX5_init 52 = .ok (.aload_n 0, 1) := by decide +kernel
theorem dX5_init_53 : decode cX5_init 53 = .ok (.bipush 6, 2) := by decide +kernel
theorem dX5_init_55 : decode cX5_init 55 = .ok (.newarray .boolean, 2) := by decide +kernel
theorem dX5_init_57 : decode cX5_init 57 = .ok (.putfield 29, 3) := by decide +kernel
theorem dX5_init_60 : decode cX5_init 60 = .ok (.aload_n 0, 1) := by decide +kernel
theorem dX5_init_61 : decode cX5_init 61 = .ok (.bipush 6, 2) := by decide +kernel
theorem dX5_init_63 : decode cX5_init 63 = .ok (.newarray .int, 2) := by decide +kernel
theorem dX5_init_65 : decode cX5_init 65 = .ok (.putfield 32, 3) := by decide +kernel
theorem dX5_init_68 : decode cX5_init 68 = .ok (.aload_n 0, 1) := by decide +kernel
theorem dX5_init_69 : decode cX5_init 69 = .ok (.bipush 6, 2) := by decide +kernel
theorem dX5_init_71 : decode cX5_init 71 = .ok (.newarray .int, 2) := by decide +kernel
theorem dX5_init_73 : decode cX5_init 73 = .ok (.putfield 35, 3) := by decide +kernel
theorem dX5_init_76 : decode cX5_init 76 = .ok (.aload_n 0, 1) := by decide +kernel
theorem dX5_init_77 : decode cX5_init 77 = .ok (.bipush 6, 2) := by decide +kernel
theorem dX5_init_79 : decode cX5_init 79 = .ok (.newarray .int, 2) := by decide +kernel
theorem dX5_init_81 : decode cX5_init 81 = .ok (.putfield 38, 3) := by decide +kernel
theorem dX5_init_84 : decode cX5_init 84 = .ok (.aload_n 0, 1) := by decide +kernel
theorem dX5_init_85 : decode cX5_init 85 = .ok (.bipush 24, 2) := by decide +kernel
theorem dX5_init_87 : decode cX5_init 87 = .ok (.newarray .int, 2) := by decide +kernel
theorem dX5_init_89 : decode cX5_init 89 = .ok (.putfield 41, 3) := by decide +kernel
theorem dX5_init_92 : decode cX5_init 92 = .ok (.aload_n 0, 1) := by decide +kernel
theorem dX5_init_93 : decode cX5_init 93 = .ok (.bipush 120, 2) := by decide +kernel
theorem dX5_init_95 : decode cX5_init 95 = .ok (.newarray .int, 2) := by decide +kernel
theorem dX5_init_97 : decode cX5_init 97 = .ok (.putfield 44, 3) := by decide +kernel
theorem dX5_init_100 : decode cX5_init 100 = .ok (.aload_n 0, 1) := by decide +kernel
theorem dX5_init_101 : decode cX5_init 101 = .ok (.bipush 120, 2) := by decide +kernel
theorem dX5_init_103 : decode cX5_init 103 = .ok (.newarray .int, 2) := by decide +kernel
theorem dX5_init_105 : decode cX5_init 105 = .ok (.putfield 47, 3) := by decide +kernel
theorem dX5_init_108 : decode cX5_init 108 = .ok (.aload_n 0, 1) := by decide +kernel
theorem dX5_init_109 : decode cX5_init 109 = .ok (.bipush 8, 2) := by decide +kernel
theorem dX5_init_111 : decode cX5_init 111 = .ok (.newarray .int, 2) := by decide +kernel
theorem dX5_init_113 : decode cX5_init 113 = .ok (.putfield 50, 3) := by decide +kernel
theorem dX5_init_116 : decode cX5_init 116 = .ok (.aload_n 0, 1) := by decide +kernel
theorem dX5_init_117 : decode cX5_init 117 = .ok (.bipush 120, 2) := by decide +kernel
theorem dX5_init_119 : decode cX5_init 119 = .ok (.newarray .int, 2) := by decide +kernel
theorem dX5_init_121 : decode cX5_init 121 = .ok (.putfield 53, 3) := by decide +kernel
theorem dX5_init_124 : decode cX5_init 124 = .ok (.aload_n 0, 1) := by decide +kernel
theorem dX5_init_125 : decode cX5_init 125 = .ok (.bipush 120, 2) := by decide +kernel
theorem dX5_init_127 : decode cX5_init 127 = .ok (.newarray .int, 2) := by decide +kernel
theorem dX5_init_129 : decode cX5_init 129 = .ok (.putfield 56, 3) := by decide +kernel
theorem dX5_init_132 : decode cX5_init 132 = .ok (.iconst 0, 1) := by decide +kernel
theorem dX5_init_133 : decode cX5_init 133 = .ok (.istore_n 1, 1) := by decide +kernel
theorem dX5_init_134 : decode cX5_init 134 = .ok (.iload_n 1, 1) := by decide +kernel
theorem dX5_init_135 : decode cX5_init 135 = .ok (.bipush 24, 2) := by decide +kernel
theorem dX5_init_137 : decode cX5_init 137 = .ok (.if_icmp .ge 16, 3) := by decide +kernel
theorem dX5_init_140 : decode cX5_init 140 = .ok (.aload_n 0, 1) := by decide +kernel
theorem dX5_init_141 : decode cX5_init 141 = .ok (.getfield 23, 3) := by decide +kernel
theorem dX5_init_144 : decode cX5_init 144 = .ok (.iload_n 1, 1) := by decide +kernel
theorem dX5_init_145 : decode cX5_init 145 = .ok (.iconst (-1), 1) := by decide +kernel
theorem dX5_init_146 : decode cX5_init 146 = .ok (.iastore, 1) := by decide +kernel
theorem dX5_init_147 : decode cX5_init 147 = .ok (.iinc 1 1, 3) := by decide +kernel
theorem dX5_init_150 : decode cX5_init 150 = .ok (.goto (-16), 3) := by decide +kernel
theorem dX5_init_153 : decode cX5_init 153 = .ok (.aload_n 0, 1) := by decide +kernel
theorem dX5_init_154 : decode cX5_init 154 = .ok (.getfield 26, 3) := by decide +kernel
theorem dX5_init_157 : decode cX5_init 157 = .ok (.iconst 0, 1) := by decide +kernel
theorem dX5_init_158 : decode cX5_init 158 = .ok (.bipush 30, 2) := by decide +kernel
theorem dX5_init_160 : decode cX5_init 160 = .ok (.iastore, 1) := by decide +kernel
theorem dX5_init_161 : decode cX5_init 161 = .ok (.aload_n 0, 1) := by decide +kernel
theorem dX5_init_162 : decode cX5_init 162 = .ok (.getfield 26, 3) := by decide +kernel
theorem dX5_init_165 : decode cX5_init 165 = .ok (.iconst 2, 1) := by decide +kernel
theorem dX5_init_166 : decode cX5_init 166 = .ok (.iconst (-1), 1) := by decide +kernel
theorem dX5_init_167 : decode cX5_init 167 = .ok (.iastore, 1) := by decide +kernel
theorem dX5_init_168 : decode cX5_init 168 = .ok (.aload_n 0, 1) := by decide +kernel
theorem dX5_init_169 : decode cX5_init 169 = .ok (.getfield 26, 3) := by decide +kernel
theorem dX5_init_172 : decode cX5_init 172 = .ok (.iconst 4, 1) := by decide +kernel
theorem dX5_init_173 : decode cX5_init 173 = .ok (.iconst 1, 1) := by decide +kernel
theorem dX5_init_174 : decode cX5_init 174 = .ok (.iastore, 1) := by decide +kernel
theorem dX5_init_175 : decode cX5_init 175 = .ok (.return_, 1) := by decide +kernel
theorem dX5_in_0 : decode cX5_in 0 = .ok (.lload_n 0, 1) := by decide +kernel
theorem dX5_in_1 : decode cX5_in 1 = .ok (.lload_n 2, 1) := by decide +kernel
theorem dX5_in_2 : decode cX5_in 2 = .ok (.lcmp, 1) := by decide +kernel
theorem dX5_in_3 : decode cX5_in 3 = .ok (.ifCond .lt 14, 3) := by decide +kernel
theorem dX5_in_6 : decode cX5_in 6 = .ok (.lload_n 0, 1) := by decide +kernel
theorem dX5_in_7 : decode cX5_in 7 = .ok (.lload 4, 2) := by decide +kernel
theorem dX5_in_9 : decode cX5_in 9 = .ok (.lcmp, 1) := by decide +kernel
theorem dX5_in_10 : decode cX5_in 10 = .ok (.ifCond .gt 7, 3) := by decide +kernel
theorem dX5_in_13 : decode cX5_in 13 = .ok (.iconst 1, 1) := by decide +kernel
theorem dX5_in_14 : decode cX5_in 14 = .ok (.goto 4, 3) := by decide +kernel
theorem dX5_in_17 : decode cX5_in 17 = .ok (.iconst 0, 1) := by decide +kernel
theorem dX5_in_18 : decode cX5_in 18 = .ok (.ireturn, 1) := by decide +kernel
theorem dX5_isWho_0 : decode cX5_isWho 0 = .ok (.iload_n 0, 1) := by decide +kernel
theorem dX5_isWho_1 : decode cX5_isWho 1 = .ok (.i2l, 1) := by decide +kernel
theorem dX5_isWho_2 : decode cX5_isWho 2 = .ok (.lconst 0, 1) := by decide +kernel
theorem dX5_isWho_3 : decode cX5_isWho 3 = .ok (.ldc2_w 59, 3) := by decide +kernel
theorem dX5_isWho_6 : decode cX5_isWho 6 = .ok (.invokestatic 61, 3) := by decide +kernel
theorem dX5_isWho_9 : decode cX5_isWho 9 = .ok (.ireturn, 1) := by decide +kernel
theorem dX5_isClick_0 : decode cX5_isClick 0 = .ok (.iload_n 1, 1) := by decide +kernel
theorem dX5_isClick_1 : decode cX5_isClick 1 = .ok (.i2l, 1) := by decide +kernel
theorem dX5_isClick_2 : decode cX5_isClick 2 = .ok (.lconst 0, 1) := by decide +kernel
theorem dX5_isClick_3 : decode cX5_isClick 3 = .ok (.aload_n 0, 1) := by decide +kernel
theorem dX5_isClick_4 : decode cX5_isClick 4 = .ok (.getfield 65, 3) := by decide +kernel
theorem dX5_isClick_7 : decode cX5_isClick 7 = .ok (.iconst 1, 1) := by decide +kernel
theorem dX5_isClick_8 : decode cX5_isClick 8 = .ok (.isub, 1) := by decide +kernel
theorem dX5_isClick_9 : decode cX5_isClick 9 = .ok (.i2l, 1) := by decide +kernel
theorem dX5_isClick_10 : decode cX5_isClick 10 = .ok (.invokestatic 61, 3) := by decide +kernel
theorem dX5_isClick_13 : decode cX5_isClick 13 = .ok (.ireturn, 1) := by decide +kernel
theorem dX5_personOf_0 : decode cX5_personOf 0 = .ok (.aload_n 0, 1) := by decide +kernel
theorem dX5_personOf_1 : decode cX5_personOf 1 = .ok (.getfield 23, 3) := by decide +kernel
theorem dX5_personOf_4 : decode cX5_personOf 4 = .ok (.iload_n 1, 1) := by decide +kernel
theorem dX5_personOf_5 : decode cX5_personOf 5 = .ok (.iaload, 1) := by decide +kernel
theorem dX5_personOf_6 : decode cX5_personOf 6 = .ok (.ifCond .lt 12, 3) := by decide +kernel
theorem dX5_personOf_9 : decode cX5_personOf 9 = .ok (.aload_n 0, 1) := by decide +kernel
theorem dX5_personOf_10 : decode cX5_personOf 10 = .ok (.getfield 23, 3) := by decide +kernel
theorem dX5_personOf_13 : decode cX5_personOf 13 = .ok (.iload_n 1, 1) := by decide +kernel
theorem dX5_personOf_14 : decode cX5_personOf 14 = .ok (.iaload, 1) := by decide +kernel
theorem dX5_personOf_15 : decode cX5_personOf 15 = .ok (.goto 4, 3) := by decide +kernel
theorem dX5_personOf_18 : decode cX5_personOf 18 = .ok (.iload_n 1, 1) := by decide +kernel
theorem dX5_personOf_19 : decode cX5_personOf 19 = .ok (.ireturn, 1) := by decide +kernel
theorem dX5_click_0 : decode cX5_click 0 = .ok (.iload_n 2, 1) := by decide +kernel
theorem dX5_click_1 : decode cX5_click 1 = .ok (.invokestatic 69, 3) := by decide +kernel
theorem dX5_click_4 : decode cX5_click 4 = .ok (.ifCond .ne 7, 3) := by decide +kernel
theorem dX5_click_7 : decode cX5_click 7 = .ok (.sipush (-1001), 3) := by decide +kernel
theorem dX5_click_10 : decode cX5_click 10 = .ok (.ireturn, 1) := by decide +kernel
theorem dX5_click_11 : decode cX5_click 11 = .ok (.iload_n 1, 1) := by decide +kernel
theorem dX5_click_12 : decode cX5_click 12 = .ok (.i2l, 1) := by decide +kernel
theorem dX5_click_13 : decode cX5_click 13 = .ok (.lconst 0, 1) := by decide +kernel
theorem dX5_click_14 : decode cX5_click 14 = .ok (.ldc2_w 73, 3) := by decide +kernel
theorem dX5_click_17 : decode cX5_click 17 = .ok (.invokestatic 61, 3) := by decide +kernel
theorem dX5_click_20 : decode cX5_click 20 = .ok (.ifCond .eq 15, 3) := by decide +kernel
theorem dX5_click_23 : decode cX5_click 23 = .ok (.iload_n 3, 1) := by decide +kernel
theorem dX5_click_24 : decode cX5_click 24 = .ok (.i2l, 1) := by decide +kernel
theorem dX5_click_25 : decode cX5_click 25 = .ok (.lconst 0, 1) := by decide +kernel
theorem dX5_click_26 : decode cX5_click 26 = .ok (.ldc2_w 75, 3) := by decide +kernel
theorem dX5_click_29 : decode cX5_click 29 = .ok (.invokestatic 61, 3) := by decide +kernel
theorem dX5_click_32 : decode cX5_click 32 = .ok (.ifCond .ne 7, 3) := by decide +kernel
theorem dX5_click_35 : decode cX5_click 35 = .ok (.sipush (-1002), 3) := by decide +kernel
theorem dX5_click_38 : decode cX5_click 38 = .ok (.ireturn, 1) := by decide +kernel
theorem dX5_click_39 : decode cX5_click 39 = .ok (.aload_n 0, 1) := by decide +kernel
theorem dX5_click_40 : decode cX5_click 40 = .ok (.getfield 65, 3) := by decide +kernel
theorem dX5_click_43 : decode cX5_click 43 = .ok (.bipush 120, 2) := by decide +kernel
theorem dX5_click_45 : decode cX5_click 45 = .ok (.if_icmp .ne 7, 3) := by decide +kernel
theorem dX5_click_48 : decode cX5_click 48 = .ok (.sipush (-1004), 3) := by decide +kernel
theorem dX5_click_51 : decode cX5_click 51 = .ok (.ireturn, 1) := by decide +kernel
theorem dX5_click_52 : decode cX5_click 52 = .ok (.aload_n 0, 1) := by decide +kernel
theorem dX5_click_53 : decode cX5_click 53 = .ok (.getfield 7, 3) := by decide +kernel
theorem dX5_click_56 : decode cX5_click 56 = .ok (.aload_n 0, 1) := by decide +kernel
theorem dX5_click_57 : decode cX5_click 57 = .ok (.getfield 65, 3) := by decide +kernel
theorem dX5_click_60 : decode cX5_click 60 = .ok (.iload_n 1, 1) := by decide +kernel
theorem dX5_click_61 : decode cX5_click 61 = .ok (.iastore, 1) := by decide +kernel
theorem dX5_click_62 : decode cX5_click 62 = .ok (.aload_n 0, 1) := by decide +kernel
theorem dX5_click_63 : decode cX5_click 63 = .ok (.getfield 13, 3) := by decide +kernel
theorem dX5_click_66 : decode cX5_click 66 = .ok (.aload_n 0, 1) := by decide +kernel
theorem dX5_click_67 : decode cX5_click 67 = .ok (.getfield 65, 3) := by decide +kernel
theorem dX5_click_70 : decode cX5_click 70 = .ok (.iload_n 2, 1) := by decide +kernel
theorem dX5_click_71 : decode cX5_click 71 = .ok (.iastore, 1) := by decide +kernel
theorem dX5_click_72 : decode cX5_click 72 = .ok (.aload_n 0, 1) := by decide +kernel
theorem dX5_click_73 : decode cX5_click 73 = .ok (.getfield 16, 3) := by decide +kernel
theorem dX5_click_76 : decode cX5_click 76 = .ok (.aload_n 0, 1) := by decide +kernel
theorem dX5_click_77 : decode cX5_click 77 = .ok (.getfield 65, 3) := by decide +kernel
theorem dX5_click_80 : decode cX5_click 80 = .ok (.iload_n 3, 1) := by decide +kernel
theorem dX5_click_81 : decode cX5_click 81 = .ok (.iastore, 1) := by decide +kernel
theorem dX5_click_82 : decode cX5_click 82 = .ok (.aload_n 0, 1) := by decide +kernel
theorem dX5_click_83 : decode cX5_click 83 = .ok (.getfield 19, 3) := by decide +kernel
theorem dX5_click_86 : decode cX5_click 86 = .ok (.aload_n 0, 1) := by decide +kernel
theorem dX5_click_87 : decode cX5_click 87 = .ok (.getfield 65, 3) := by decide +kernel
theorem dX5_click_90 : decode cX5_click 90 = .ok (.iconst 0, 1) := by decide +kernel
theorem dX5_click_91 : decode cX5_click 91 = .ok (.bastore, 1) := by decide +kernel
theorem dX5_click_92 : decode cX5_click 92 = .ok (.aload_n 0, 1) := by decide +kernel
theorem dX5_click_93 : decode cX5_click 93 = .ok (.dup, 1) := by decide +kernel
theorem dX5_click_94 : decode cX5_click 94 = .ok (.getfield 65, 3) := by decide +kernel
theorem dX5_click_97 : decode cX5_click 97 = .ok (.iconst 1, 1) := by decide +kernel
theorem dX5_click_98 : decode cX5_click 98 = .ok (.iadd, 1) := by decide +kernel
theorem dX5_click_99 : decode cX5_click 99 = .ok (.putfield 65, 3) := by decide +kernel
theorem dX5_click_102 : decode cX5_click 102 = .ok (.aload_n 0, 1) := by decide +kernel
theorem dX5_click_103 : decode cX5_click 103 = .ok (.getfield 65, 3) := by decide +kernel
theorem dX5_click_106 : decode cX5_click 106 = .ok (.iconst 1, 1) := by decide +kernel
theorem dX5_click_107 : decode cX5_click 107 = .ok (.isub, 1) := by decide +kernel
theorem dX5_click_108 : decode cX5_click 108 = .ok (.ireturn, 1) := by decide +kernel
theorem dX5_strike_0 : decode cX5_strike 0 = .ok (.aload_n 0, 1) := by decide +kernel
theorem dX5_strike_1 : decode cX5_strike 1 = .ok (.iload_n 1, 1) := by decide +kernel
theorem dX5_strike_2 : decode cX5_strike 2 = .ok (.invokevirtual 77, 3) := by decide +kernel
theorem dX5_strike_5 : decode cX5_strike 5 = .ok (.ifCond .ne 7, 3) := by decide +kernel
theorem dX5_strike_8 : decode cX5_strike 8 = .ok (.sipush (-1001), 3) := by decide +kernel
theorem dX5_strike_11 : decode cX5_strike 11 = .ok (.ireturn, 1) := by decide +kernel
theorem dX5_strike_12 : decode cX5_strike 12 = .ok (.aload_n 0, 1) := by decide +kernel
theorem dX5_strike_13 : decode cX5_strike 13 = .ok (.getfield 19, 3) := by decide +kernel
theorem dX5_strike_16 : decode cX5_strike 16 = .ok (.iload_n 1, 1) := by decide +kernel
theorem dX5_strike_17 : decode cX5_strike 17 = .ok (.baload, 1) := by decide +kernel
theorem dX5_strike_18 : decode cX5_strike 18 = .ok (.ifCond .eq 7, 3) := by decide +kernel
theorem dX5_strike_21 : decode cX5_strike 21 = .ok (.iconst 1, 1) := by decide +kernel
theorem dX5_strike_22 : decode cX5_strike 22 = .ok (.goto 4, 3) := by decide +kernel
theorem dX5_strike_25 : decode cX5_strike 25 = .ok (.iconst 0, 1) := by decide +kernel
theorem dX5_strike_26 : decode cX5_strike 26 = .ok (.istore_n 3, 1) := by decide +kernel
theorem dX5_strike_27 : decode cX5_strike 27 = .ok (.aload_n 0, 1) := by decide +kernel
theorem dX5_strike_28 : decode cX5_strike 28 = .ok (.getfield 19, 3) := by decide +kernel
theorem dX5_strike_31 : decode cX5_strike 31 = .ok (.iload_n 1, 1) := by decide +kernel
theorem dX5_strike_32 : decode cX5_strike 32 = .ok (.iload_n 2, 1) := by decide +kernel
theorem dX5_strike_33 : decode cX5_strike 33 = .ok (.bastore, 1) := by decide +kernel
theorem dX5_strike_34 : decode cX5_strike 34 = .ok (.iload_n 3, 1) := by decide +kernel
theorem dX5_strike_35 : decode cX5_strike 35 = .ok (.ireturn, 1) := by decide +kernel
theorem dX5_join_0 : decode cX5_join 0 = .ok (.iload_n 1, 1) := by decide +kernel
theorem dX5_join_1 : decode cX5_join 1 = .ok (.i2l, 1) := by decide +kernel
theorem dX5_join_2 : decode cX5_join 2 = .ok (.ldc2_w 80, 3) := by decide +kernel
theorem dX5_join_5 : decode cX5_join 5 = .ok (.ldc2_w 59, 3) := by decide +kernel
theorem dX5_join_8 : decode cX5_join 8 = .ok (.invokestatic 61, 3) := by decide +kernel
theorem dX5_join_11 : decode cX5_join 11 = .ok (.ifCond .eq 15, 3) := by decide +kernel
theorem dX5_join_14 : decode cX5_join 14 = .ok (.iload_n 2, 1) := by decide +kernel
theorem dX5_join_15 : decode cX5_join 15 = .ok (.i2l, 1) := by decide +kernel
theorem dX5_join_16 : decode cX5_join 16 = .ok (.lconst 0, 1) := by decide +kernel
theorem dX5_join_17 : decode cX5_join 17 = .ok (.ldc2_w 82, 3) := by decide +kernel
theorem dX5_join_20 : decode cX5_join 20 = .ok (.invokestatic 61, 3) := by decide +kernel
theorem dX5_join_23 : decode cX5_join 23 = .ok (.ifCond .ne 7, 3) := by decide +kernel
theorem dX5_join_26 : decode cX5_join 26 = .ok (.sipush (-1001), 3) := by decide +kernel
theorem dX5_join_29 : decode cX5_join 29 = .ok (.ireturn, 1) := by decide +kernel
theorem dX5_join_30 : decode cX5_join 30 = .ok (.aload_n 0, 1) := by decide +kernel
theorem dX5_join_31 : decode cX5_join 31 = .ok (.getfield 23, 3) := by decide +kernel
theorem dX5_join_34 : decode cX5_join 34 = .ok (.iload_n 1, 1) := by decide +kernel
theorem dX5_join_35 : decode cX5_join 35 = .ok (.iaload, 1) := by decide +kernel
theorem dX5_join_36 : decode cX5_join 36 = .ok (.ifCond .lt 7, 3) := by decide +kernel
theorem dX5_join_39 : decode cX5_join 39 = .ok (.sipush (-1003), 3) := by decide +kernel
theorem dX5_join_42 : decode cX5_join 42 = .ok (.ireturn, 1) := by decide +kernel
theorem dX5_join_43 : decode cX5_join 43 = .ok (.aload_n 0, 1) := by decide +kernel
theorem dX5_join_44 : decode cX5_join 44 = .ok (.getfield 23, 3) := by decide +kernel
theorem dX5_join_47 : decode cX5_join 47 = .ok (.iload_n 1, 1) := by decide +kernel
theorem dX5_join_48 : decode cX5_join 48 = .ok (.iload_n 2, 1) := by decide +kernel
theorem dX5_join_49 : decode cX5_join 49 = .ok (.iastore, 1) := by decide +kernel
theorem dX5_join_50 : decode cX5_join 50 = .ok (.iconst 0, 1) := by decide +kernel
theorem dX5_join_51 : decode cX5_join 51 = .ok (.istore_n 3, 1) := by decide +kernel
theorem dX5_join_52 : decode cX5_join 52 = .ok (.iconst 0, 1) := by decide +kernel
theorem dX5_join_53 : decode cX5_join 53 = .ok (.istore 4, 2) := by decide +kernel
theorem dX5_join_55 : decode cX5_join 55 = .ok (.iload 4, 2) := by decide +kernel
theorem dX5_join_57 : decode cX5_join 57 = .ok (.aload_n 0, 1) := by decide +kernel
theorem dX5_join_58 : decode cX5_join 58 = .ok (.getfield 65, 3) := by decide +kernel
theorem dX5_join_61 : decode cX5_join 61 = .ok (.if_icmp .ge 28, 3) := by decide +kernel
theorem dX5_join_64 : decode cX5_join 64 = .ok (.iload_n 3, 1) := by decide +kernel
theorem dX5_join_65 : decode cX5_join 65 = .ok (.aload_n 0, 1) := by decide +kernel
theorem dX5_join_66 : decode cX5_join 66 = .ok (.getfield 13, 3) := by decide +kernel
theorem dX5_join_69 : decode cX5_join 69 = .ok (.iload 4, 2) := by decide +kernel
theorem dX5_join_71 : decode cX5_join 71 = .ok (.iaload, 1) := by decide +kernel
theorem dX5_join_72 : decode cX5_join 72 = .ok (.iload_n 1, 1) := by decide +kernel
theorem dX5_join_73 : decode cX5_join 73 = .ok (.if_icmp .ne 7, 3) := by decide +kernel
theorem dX5_join_76 : decode cX5_join 76 = .ok (.iconst 1, 1) := by decide +kernel
theorem dX5_join_77 : decode cX5_join 77 = .ok (.goto 4, 3) := by decide +kernel
theorem dX5_join_80 : decode cX5_join 80 = .ok (.iconst 0, 1) := by decide +kernel
theorem dX5_join_81 : decode cX5_join 81 = .ok (.iadd, 1) := by decide +kernel
theorem dX5_join_82 : decode cX5_join 82 = .ok (.istore_n 3, 1) := by decide +kernel
theorem dX5_join_83 : decode cX5_join 83 = .ok (.iinc 4 1, 3) := by decide +kernel
theorem dX5_join_86 : decode cX5_join 86 = .ok (.goto (-31), 3) := by decide +kernel
theorem dX5_join_89 : decode cX5_join 89 = .ok (.iload_n 3, 1) := by decide +kernel
theorem dX5_join_90 : decode cX5_join 90 = .ok (.ireturn, 1) := by decide +kernel
theorem dX5_rule_0 : decode cX5_rule 0 = .ok (.iload_n 1, 1) := by decide +kernel
theorem dX5_rule_1 : decode cX5_rule 1 = .ok (.i2l, 1) := by decide +kernel
theorem dX5_rule_2 : decode cX5_rule 2 = .ok (.lconst 0, 1) := by decide +kernel
theorem dX5_rule_3 : decode cX5_rule 3 = .ok (.ldc2_w 84, 3) := by decide +kernel
theorem dX5_rule_6 : decode cX5_rule 6 = .ok (.invokestatic 61, 3) := by decide +kernel
theorem dX5_rule_9 : decode cX5_rule 9 = .ok (.ifCond .ne 7, 3) := by decide +kernel
theorem dX5_rule_12 : decode cX5_rule 12 = .ok (.sipush (-1002), 3) := by decide +kernel
theorem dX5_rule_15 : decode cX5_rule 15 = .ok (.ireturn, 1) := by decide +kernel
theorem dX5_rule_16 : decode cX5_rule 16 = .ok (.iload_n 1, 1) := by decide +kernel
theorem dX5_rule_17 : decode cX5_rule 17 = .ok (.iconst 2, 1) := by decide +kernel
theorem dX5_rule_18 : decode cX5_rule 18 = .ok (.if_icmp .ne 7, 3) := by decide +kernel
theorem dX5_rule_21 : decode cX5_rule 21 = .ok (.iconst (-1), 1) := by decide +kernel
theorem dX5_rule_22 : decode cX5_rule 22 = .ok (.goto 13, 3) := by decide +kernel
theorem dX5_rule_25 : decode cX5_rule 25 = .ok (.iload_n 1, 1) := by decide +kernel
theorem dX5_rule_26 : decode cX5_rule 26 = .ok (.iconst 4, 1) := by decide +kernel
theorem dX5_rule_27 : decode cX5_rule 27 = .ok (.if_icmp .ne 7, 3) := by decide +kernel
theorem dX5_rule_30 : decode cX5_rule 30 = .ok (.iconst 1, 1) := by decide +kernel
theorem dX5_rule_31 : decode cX5_rule 31 = .ok (.goto 4, 3) := by decide +kernel
theorem dX5_rule_34 : decode cX5_rule 34 = .ok (.iconst 0, 1) := by decide +kernel
theorem dX5_rule_35 : decode cX5_rule 35 = .ok (.istore_n 3, 1) := by decide +kernel
theorem dX5_rule_36 : decode cX5_rule 36 = .ok (.iload_n 1, 1) := by decide +kernel
theorem dX5_rule_37 : decode cX5_rule 37 = .ok (.ifCond .eq 8, 3) := by decide +kernel
theorem dX5_rule_40 : decode cX5_rule 40 = .ok (.iload_n 1, 1) := by decide +kernel
theorem dX5_rule_41 : decode cX5_rule 41 = .ok (.iconst 4, 1) := by decide +kernel
theorem dX5_rule_42 : decode cX5_rule 42 = .ok (.if_icmp .ne 9, 3) := by decide +kernel
theorem dX5_rule_45 : decode cX5_rule 45 = .ok (.sipush 10000, 3) := by decide +kernel
theorem dX5_rule_48 : decode cX5_rule 48 = .ok (.goto 24, 3) := by decide +kernel
theorem dX5_rule_51 : decode cX5_rule 51 = .ok (.iload_n 1, 1) := by decide +kernel
theorem dX5_rule_52 : decode cX5_rule 52 = .ok (.iconst 1, 1) := by decide +kernel
theorem dX5_rule_53 : decode cX5_rule 53 = .ok (.if_icmp .ne 7, 3) := by decide +kernel
theorem dX5_rule_56 : decode cX5_rule 56 = .ok (.iconst 1, 1) := by decide +kernel
theorem dX5_rule_57 : decode cX5_rule 57 = .ok (.goto 15, 3) := by decide +kernel
theorem dX5_rule_60 : decode cX5_rule 60 = .ok (.iload_n 1, 1) := by decide +kernel
theorem dX5_rule_61 : decode cX5_rule 61 = .ok (.iconst 3, 1) := by decide +kernel
theorem dX5_rule_62 : decode cX5_rule 62 = .ok (.if_icmp .ne 8, 3) := by decide +kernel
theorem dX5_rule_65 : decode cX5_rule 65 = .ok (.bipush 100, 2) := by decide +kernel
theorem dX5_rule_67 : decode cX5_rule 67 = .ok (.goto 5, 3) := by decide +kernel
theorem dX5_rule_70 : decode cX5_rule 70 = .ok (.bipush 7, 2) := by decide +kernel
theorem dX5_rule_72 : decode cX5_rule 72 = .ok (.istore 4, 2) := by decide +kernel
theorem dX5_rule_74 : decode cX5_rule 74 = .ok (.iload_n 2, 1) := by decide +kernel
theorem dX5_rule_75 : decode cX5_rule 75 = .ok (.i2l, 1) := by decide +kernel
theorem dX5_rule_76 : decode cX5_rule 76 = .ok (.iload_n 3, 1) := by decide +kernel
theorem dX5_rule_77 : decode cX5_rule 77 = .ok (.i2l, 1) := by decide +kernel
theorem dX5_rule_78 : decode cX5_rule 78 = .ok (.iload 4, 2) := by decide +kernel
theorem dX5_rule_80 : decode cX5_rule 80 = .ok (.i2l, 1) := by decide +kernel
theorem dX5_rule_81 : decode cX5_rule 81 = .ok (.invokestatic 61, 3) := by decide +kernel
theorem dX5_rule_84 : decode cX5_rule 84 = .ok (.ifCond .ne 7, 3) := by decide +kernel
theorem dX5_rule_87 : decode cX5_rule 87 = .ok (.sipush (-1002), 3) := by decide +kernel
theorem dX5_rule_90 : decode cX5_rule 90 = .ok (.ireturn, 1) := by decide +kernel
theorem dX5_rule_91 : decode cX5_rule 91 = .ok (.aload_n 0, 1) := by decide +kernel
theorem dX5_rule_92 : decode cX5_rule 92 = .ok (.getfield 26, 3) := by decide +kernel
theorem dX5_rule_95 : decode cX5_rule 95 = .ok (.iload_n 1, 1) := by decide +kernel
theorem dX5_rule_96 : decode cX5_rule 96 = .ok (.iaload, 1) := by decide +kernel
theorem dX5_rule_97 : decode cX5_rule 97 = .ok (.istore 5, 2) := by decide +kernel
theorem dX5_rule_99 : decode cX5_rule 99 = .ok (.aload_n 0, 1) := by decide +kernel
theorem dX5_rule_100 : decode cX5_rule 100 = .ok (.getfield 26, 3) := by decide +kernel
theorem dX5_rule_103 : decode cX5_rule 103 = .ok (.iload_n 1, 1) := by decide +kernel
theorem dX5_rule_104 : decode cX5_rule 104 = .ok (.iload_n 2, 1) := by decide +kernel
theorem dX5_rule_105 : decode cX5_rule 105 = .ok (.iastore, 1) := by decide +kernel
theorem dX5_rule_106 : decode cX5_rule 106 = .ok (.iload 5, 2) := by decide +kernel
theorem dX5_rule_108 : decode cX5_rule 108 = .ok (.ireturn, 1) := by decide +kernel
theorem dX5_isAhead_0 : decode cX5_isAhead 0 = .ok (.aload_n 0, 1) := by decide +kernel
theorem dX5_isAhead_1 : decode cX5_isAhead 1 = .ok (.getfield 7, 3) := by decide +kernel
theorem dX5_isAhead_4 : decode cX5_isAhead 4 = .ok (.iload_n 1, 1) := by decide +kernel
theorem dX5_isAhead_5 : decode cX5_isAhead 5 = .ok (.iaload, 1) := by decide +kernel
theorem dX5_isAhead_6 : decode cX5_isAhead 6 = .ok (.aload_n 0, 1) := by decide +kernel
theorem dX5_isAhead_7 : decode cX5_isAhead 7 = .ok (.getfield 7, 3) := by decide +kernel
theorem dX5_isAhead_10 : decode cX5_isAhead 10 = .ok (.iload_n 2, 1) := by decide +kernel
theorem dX5_isAhead_11 : decode cX5_isAhead 11 = .ok (.iaload, 1) := by decide +kernel
theorem dX5_isAhead_12 : decode cX5_isAhead 12 = .ok (.if_icmp .lt 23, 3) := by decide +kernel
theorem dX5_isAhead_15 : decode cX5_isAhead 15 = .ok (.aload_n 0, 1) := by decide +kernel
theorem dX5_isAhead_16 : decode cX5_isAhead 16 = .ok (.getfield 7, 3) := by decide +kernel
theorem dX5_isAhead_19 : decode cX5_isAhead 19 = .ok (.iload_n 1, 1) := by decide +kernel
theorem dX5_isAhead_20 : decode cX5_isAhead 20 = .ok (.iaload, 1) := by decide +kernel
theorem dX5_isAhead_21 : decode cX5_isAhead 21 = .ok (.aload_n 0, 1) := by decide +kernel
theorem dX5_isAhead_22 : decode cX5_isAhead 22 = .ok (.getfield 7, 3) := by decide +kernel
theorem dX5_isAhead_25 : decode cX5_isAhead 25 = .ok (.iload_n 2, 1) := by decide +kernel
theorem dX5_isAhead_26 : decode cX5_isAhead 26 = .ok (.iaload, 1) := by decide +kernel
theorem dX5_isAhead_27 : decode cX5_isAhead 27 = .ok (.if_icmp .ne 12, 3) := by decide +kernel
theorem dX5_isAhead_30 : decode cX5_isAhead 30 = .ok (.iload_n 1, 1) := by decide +kernel
theorem dX5_isAhead_31 : decode cX5_isAhead 31 = .ok (.iload_n 2, 1) := by decide +kernel
theorem dX5_isAhead_32 : decode cX5_isAhead 32 = .ok (.if_icmp .ge 7, 3) := by decide +kernel
theorem dX5_isAhead_35 : decode cX5_isAhead 35 = .ok (.iconst 1, 1) := by decide +kernel
theorem dX5_isAhead_36 : decode cX5_isAhead 36 = .ok (.goto 4, 3) := by decide +kernel
theorem dX5_isAhead_39 : decode cX5_isAhead 39 = .ok (.iconst 0, 1) := by decide +kernel
theorem dX5_isAhead_40 : decode cX5_isAhead 40 = .ok (.ireturn, 1) := by decide +kernel
theorem dX5_isCut_0 : decode cX5_isCut 0 = .ok (.aload_n 0, 1) := by decide +kernel
theorem dX5_isCut_1 : decode cX5_isCut 1 = .ok (.getfield 44, 3) := by decide +kernel
theorem dX5_isCut_4 : decode cX5_isCut 4 = .ok (.iload_n 1, 1) := by decide +kernel
theorem dX5_isCut_5 : decode cX5_isCut 5 = .ok (.iconst 1, 1) := by decide +kernel
theorem dX5_isCut_6 : decode cX5_isCut 6 = .ok (.isub, 1) := by decide +kernel
theorem dX5_isCut_7 : decode cX5_isCut 7 = .ok (.iaload, 1) := by decide +kernel
theorem dX5_isCut_8 : decode cX5_isCut 8 = .ok (.istore_n 2, 1) := by decide +kernel
theorem dX5_isCut_9 : decode cX5_isCut 9 = .ok (.aload_n 0, 1) := by decide +kernel
theorem dX5_isCut_10 : decode cX5_isCut 10 = .ok (.getfield 44, 3) := by decide +kernel
theorem dX5_isCut_13 : decode cX5_isCut 13 = .ok (.iload_n 1, 1) := by decide +kernel
theorem dX5_isCut_14 : decode cX5_isCut 14 = .ok (.iaload, 1) := by decide +kernel
theorem dX5_isCut_15 : decode cX5_isCut 15 = .ok (.istore_n 3, 1) := by decide +kernel
theorem dX5_isCut_16 : decode cX5_isCut 16 = .ok (.aload_n 0, 1) := by decide +kernel
theorem dX5_isCut_17 : decode cX5_isCut 17 = .ok (.getfield 7, 3) := by decide +kernel
theorem dX5_isCut_20 : decode cX5_isCut 20 = .ok (.iload_n 3, 1) := by decide +kernel
theorem dX5_isCut_21 : decode cX5_isCut 21 = .ok (.iaload, 1) := by decide +kernel
theorem dX5_isCut_22 : decode cX5_isCut 22 = .ok (.aload_n 0, 1) := by decide +kernel
theorem dX5_isCut_23 : decode cX5_isCut 23 = .ok (.getfield 7, 3) := by decide +kernel
theorem dX5_isCut_26 : decode cX5_isCut 26 = .ok (.iload_n 2, 1) := by decide +kernel
theorem dX5_isCut_27 : decode cX5_isCut 27 = .ok (.iaload, 1) := by decide +kernel
theorem dX5_isCut_28 : decode cX5_isCut 28 = .ok (.isub, 1) := by decide +kernel
theorem dX5_isCut_29 : decode cX5_isCut 29 = .ok (.aload_n 0, 1) := by decide +kernel
theorem dX5_isCut_30 : decode cX5_isCut 30 = .ok (.getfield 26, 3) := by decide +kernel
theorem dX5_isCut_33 : decode cX5_isCut 33 = .ok (.iconst 0, 1) := by decide +kernel
theorem dX5_isCut_34 : decode cX5_isCut 34 = .ok (.iaload, 1) := by decide +kernel
theorem dX5_isCut_35 : decode cX5_isCut 35 = .ok (.if_icmp .gt 51, 3) := by decide +kernel
theorem dX5_isCut_38 : decode cX5_isCut 38 = .ok (.aload_n 0, 1) := by decide +kernel
theorem dX5_isCut_39 : decode cX5_isCut 39 = .ok (.getfield 26, 3) := by decide +kernel
theorem dX5_isCut_42 : decode cX5_isCut 42 = .ok (.iconst 1, 1) := by decide +kernel
theorem dX5_isCut_43 : decode cX5_isCut 43 = .ok (.iaload, 1) := by decide +kernel
theorem dX5_isCut_44 : decode cX5_isCut 44 = .ok (.iconst 1, 1) := by decide +kernel
theorem dX5_isCut_45 : decode cX5_isCut 45 = .ok (.if_icmp .ne 26, 3) := by decide +kernel
theorem dX5_isCut_48 : decode cX5_isCut 48 = .ok (.aload_n 0, 1) := by decide +kernel
theorem dX5_isCut_49 : decode cX5_isCut 49 = .ok (.getfield 7, 3) := by decide +kernel
theorem dX5_isCut_52 : decode cX5_isCut 52 = .ok (.iload_n 2, 1) := by decide +kernel
theorem dX5_isCut_53 : decode cX5_isCut 53 = .ok (.iaload, 1) := by decide +kernel
theorem dX5_isCut_54 : decode cX5_isCut 54 = .ok (.sipush 1440, 3) := by decide +kernel
theorem dX5_isCut_57 : decode cX5_isCut 57 = .ok (.idiv, 1) := by decide +kernel
theorem dX5_isCut_58 : decode cX5_isCut 58 = .ok (.aload_n 0, 1) := by decide +kernel
theorem dX5_isCut_59 : decode cX5_isCut 59 = .ok (.getfield 7, 3) := by decide +kernel
theorem dX5_isCut_62 : decode cX5_isCut 62 = .ok (.iload_n 3, 1) := by decide +kernel
theorem dX5_isCut_63 : decode cX5_isCut 63 = .ok (.iaload, 1) := by decide +kernel
theorem dX5_isCut_64 : decode cX5_isCut 64 = .ok (.sipush 1440, 3) := by decide +kernel
theorem dX5_isCut_67 : decode cX5_isCut 67 = .ok (.idiv, 1) := by decide +kernel
theorem dX5_isCut_68 : decode cX5_isCut 68 = .ok (.if_icmp .ne 18, 3) := by decide +kernel
theorem dX5_isCut_71 : decode cX5_isCut 71 = .ok (.aload_n 0, 1) := by decide +kernel
theorem dX5_isCut_72 : decode cX5_isCut 72 = .ok (.getfield 16, 3) := by decide +kernel
theorem dX5_isCut_75 : decode cX5_isCut 75 = .ok (.iload_n 2, 1) := by decide +kernel
theorem dX5_isCut_76 : decode cX5_isCut 76 = .ok (.iaload, 1) := by decide +kernel
theorem dX5_isCut_77 : decode cX5_isCut 77 = .ok (.aload_n 0, 1) := by decide +kernel
theorem dX5_isCut_78 : decode cX5_isCut 78 = .ok (.getfield 26, 3) := by decide +kernel
theorem dX5_isCut_81 : decode cX5_isCut 81 = .ok (.iconst 2, 1) := by decide +kernel
theorem dX5_isCut_82 : decode cX5_isCut 82 = .ok (.iaload, 1) := by decide +kernel
theorem dX5_isCut_83 : decode cX5_isCut 83 = .ok (.if_icmp .ne 7, 3) := by decide +kernel
theorem dX5_isCut_86 : decode cX5_isCut 86 = .ok (.iconst 1, 1) := by decide +kernel
theorem dX5_isCut_87 : decode cX5_isCut 87 = .ok (.goto 4, 3) := by decide +kernel
theorem dX5_isCut_90 : decode cX5_isCut 90 = .ok (.iconst 0, 1) := by decide +kernel
theorem dX5_isCut_91 : decode cX5_isCut 91 = .ok (.ireturn, 1) := by decide +kernel
theorem dX5_gather_0 : decode cX5_gather 0 = .ok (.aload_n 0, 1) := by decide +kernel
theorem dX5_gather_1 : decode cX5_gather 1 = .ok (.iconst 0, 1) := by decide +kernel
theorem dX5_gather_2 : decode cX5_gather 2 = .ok (.putfield 86, 3) := by decide +kernel
theorem dX5_gather_5 : decode cX5_gather 5 = .ok (.iconst 0, 1) := by decide +kernel
theorem dX5_gather_6 : decode cX5_gather 6 = .ok (.istore_n 2, 1) := by decide +kernel
theorem dX5_gather_7 : decode cX5_gather 7 = .ok (.iload_n 2, 1) := by decide +kernel
theorem dX5_gather_8 : decode cX5_gather 8 = .ok (.aload_n 0, 1) := by decide +kernel
theorem dX5_gather_9 : decode cX5_gather 9 = .ok (.getfield 65, 3) := by decide +kernel
theorem dX5_gather_12 : decode cX5_gather 12 = .ok (.if_icmp .ge 94, 3) := by decide +kernel
theorem dX5_gather_15 : decode cX5_gather 15 = .ok (.aload_n 0, 1) := by decide +kernel
theorem dX5_gather_16 : decode cX5_gather 16 = .ok (.aload_n 0, 1) := by decide +kernel
theorem dX5_gather_17 : decode cX5_gather 17 = .ok (.getfield 13, 3) := by decide +kernel
theorem dX5_gather_20 : decode cX5_gather 20 = .ok (.iload_n 2, 1) := by decide +kernel
theorem dX5_gather_21 : decode cX5_gather 21 = .ok (.iaload, 1) := by decide +kernel
theorem dX5_gather_22 : decode cX5_gather 22 = .ok (.invokevirtual 89, 3) := by decide +kernel
theorem dX5_gather_25 : decode cX5_gather 25 = .ok (.iload_n 1, 1) := by decide +kernel
theorem dX5_gather_26 : decode cX5_gather 26 = .ok (.if_icmp .ne 74, 3) := by decide +kernel
theorem dX5_gather_29 : decode cX5_gather 29 = .ok (.aload_n 0, 1) := by decide +kernel
theorem dX5_gather_30 : decode cX5_gather 30 = .ok (.getfield 19, 3) := by decide +kernel
theorem dX5_gather_33 : decode cX5_gather 33 = .ok (.iload_n 2, 1) := by decide +kernel
theorem dX5_gather_34 : decode cX5_gather 34 = .ok (.baload, 1) := by decide +kernel
theorem dX5_gather_35 : decode cX5_gather 35 = .ok (.ifCond .ne 65, 3) := by decide +kernel
theorem dX5_gather_38 : decode cX5_gather 38 = .ok (.aload_n 0, 1) := by decide +kernel
theorem dX5_gather_39 : decode cX5_gather 39 = .ok (.getfield 86, 3) := by decide +kernel
theorem dX5_gather_42 : decode cX5_gather 42 = .ok (.istore_n 3, 1) := by decide +kernel
theorem dX5_gather_43 : decode cX5_gather 43 = .ok (.iload_n 3, 1) := by decide +kernel
theorem dX5_gather_44 : decode cX5_gather 44 = .ok (.ifCond .le 39, 3) := by decide +kernel
theorem dX5_gather_47 : decode cX5_gather 47 = .ok (.aload_n 0, 1) := by decide +kernel
theorem dX5_gather_48 : decode cX5_gather 48 = .ok (.iload_n 2, 1) := by decide +kernel
theorem dX5_gather_49 : decode cX5_gather 49 = .ok (.aload_n 0, 1) := by decide +kernel
theorem dX5_gather_50 : decode cX5_gather 50 = .ok (.getfield 44, 3) := by decide +kernel
theorem dX5_gather_53 : decode cX5_gather 53 = .ok (.iload_n 3, 1) := by decide +kernel
theorem dX5_gather_54 : decode cX5_gather 54 = .ok (.iconst 1, 1) := by decide +kernel
theorem dX5_gather_55 : decode cX5_gather 55 = .ok (.isub, 1) := by decide +kernel
theorem dX5_gather_56 : decode cX5_gather 56 = .ok (.iaload, 1) := by decide +kernel
theorem dX5_gather_57 : decode cX5_gather 57 = .ok (.invokevirtual 93, 3) := by decide +kernel
theorem dX5_gather_60 : decode cX5_gather 60 = .ok (.ifCond .eq 23, 3) := by decide +kernel
theorem dX5_gather_63 : decode cX5_gather 63 = .ok (.aload_n 0, 1) := by decide +kernel
theorem dX5_gather_64 : decode cX5_gather 64 = .ok (.getfield 44, 3) := by decide +kernel
theorem dX5_gather_67 : decode cX5_gather 67 = .ok (.iload_n 3, 1) := by decide +kernel
theorem dX5_gather_68 : decode cX5_gather 68 = .ok (.aload_n 0, 1) := by decide +kernel
theorem dX5_gather_69 : decode cX5_gather 69 = .ok (.getfield 44, 3) := by decide +kernel
theorem dX5_gather_72 : decode cX5_gather 72 = .ok (.iload_n 3, 1) := by decide +kernel
theorem dX5_gather_73 : decode cX5_gather 73 = .ok (.iconst 1, 1) := by decide +kernel
theorem dX5_gather_74 : decode cX5_gather 74 = .ok (.isub, 1) := by decide +kernel
theorem dX5_gather_75 : decode cX5_gather 75 = .ok (.iaload, 1) := by decide +kernel
theorem dX5_gather_76 : decode cX5_gather 76 = .ok (.iastore, 1) := by decide +kernel
theorem dX5_gather_77 : decode cX5_gather 77 = .ok (.iinc 3 (-1), 3) := by decide +kernel
theorem dX5_gather_80 : decode cX5_gather 80 = .ok (.goto (-37), 3) := by decide +kernel
theorem dX5_gather_83 : decode cX5_gather 83 = .ok (.aload_n 0, 1) := by decide +kernel
theorem dX5_gather_84 : decode cX5_gather 84 = .ok (.getfield 44, 3) := by decide +kernel
theorem dX5_gather_87 : decode cX5_gather 87 = .ok (.iload_n 3, 1) := by decide +kernel
theorem dX5_gather_88 : decode cX5_gather 88 = .ok (.iload_n 2, 1) := by decide +kernel
theorem dX5_gather_89 : decode cX5_gather 89 = .ok (.iastore, 1) := by decide +kernel
theorem dX5_gather_90 : decode cX5_gather 90 = .ok (.aload_n 0, 1) := by decide +kernel
theorem dX5_gather_91 : decode cX5_gather 91 = .ok (.dup, 1) := by decide +kernel
theorem dX5_gather_92 : decode cX5_gather 92 = .ok (.getfield 86, 3) := by decide +kernel
theorem dX5_gather_95 : decode cX5_gather 95 = .ok (.iconst 1, 1) := by decide +kernel
theorem dX5_gather_96 : decode cX5_gather 96 = .ok (.iadd, 1) := by decide +kernel
theorem dX5_gather_97 : decode cX5_gather 97 = .ok (.putfield 86, 3) := by decide +kernel
theorem dX5_gather_100 : decode cX5_gather 100 = .ok (.iinc 2 1, 3) := by decide +kernel
theorem dX5_gather_103 : decode cX5_gather 103 = .ok (.goto (-96), 3) := by decide +kernel
theorem dX5_gather_106 : decode cX5_gather 106 = .ok (.aload_n 0, 1) := by decide +kernel
theorem dX5_gather_107 : decode cX5_gather 107 = .ok (.iconst 0, 1) := by decide +kernel
theorem dX5_gather_108 : decode cX5_gather 108 = .ok (.putfield 97, 3) := by decide +kernel
theorem dX5_gather_111 : decode cX5_gather 111 = .ok (.aload_n 0, 1) := by decide +kernel
theorem dX5_gather_112 : decode cX5_gather 112 = .ok (.getfield 26, 3) := by decide +kernel
theorem dX5_gather_115 : decode cX5_gather 115 = .ok (.iconst 3, 1) := by decide +kernel
theorem dX5_gather_116 : decode cX5_gather 116 = .ok (.iaload, 1) := by decide +kernel
theorem dX5_gather_117 : decode cX5_gather 117 = .ok (.istore_n 2, 1) := by decide +kernel
theorem dX5_gather_118 : decode cX5_gather 118 = .ok (.iconst 0, 1) := by decide +kernel
theorem dX5_gather_119 : decode cX5_gather 119 = .ok (.istore_n 3, 1) := by decide +kernel
theorem dX5_gather_120 : decode cX5_gather 120 = .ok (.iload_n 2, 1) := by decide +kernel
theorem dX5_gather_121 : decode cX5_gather 121 = .ok (.ifCond .le 69, 3) := by decide +kernel
theorem dX5_gather_124 : decode cX5_gather 124 = .ok (.iload_n 3, 1) := by decide +kernel
theorem dX5_gather_125 : decode cX5_gather 125 = .ok (.iload_n 2, 1) := by decide +kernel
theorem dX5_gather_126 : decode cX5_gather 126 = .ok (.iadd, 1) := by decide +kernel
theorem dX5_gather_127 : decode cX5_gather 127 = .ok (.aload_n 0, 1) := by decide +kernel
theorem dX5_gather_128 : decode cX5_gather 128 = .ok (.getfield 86, 3) := by decide +kernel
theorem dX5_gather_131 : decode cX5_gather 131 = .ok (.if_icmp .ge 59, 3) := by decide +kernel
theorem dX5_gather_134 : decode cX5_gather 134 = .ok (.aload_n 0, 1) := by decide +kernel
theorem dX5_gather_135 : decode cX5_gather 135 = .ok (.aload_n 0, 1) := by decide +kernel
theorem dX5_gather_136 : decode cX5_gather 136 = .ok (.getfield 97, 3) := by decide +kernel
theorem dX5_gather_139 : decode cX5_gather 139 = .ok (.ifCond .ne 37, 3) := by decide +kernel
theorem dX5_gather_142 : decode cX5_gather 142 = .ok (.aload_n 0, 1) := by decide +kernel
theorem dX5_gather_143 : decode cX5_gather 143 = .ok (.getfield 7, 3) := by decide +kernel
theorem dX5_gather_146 : decode cX5_gather 146 = .ok (.aload_n 0, 1) := by decide +kernel
theorem dX5_gather_147 : decode cX5_gather 147 = .ok (.getfield 44, 3) := by decide +kernel
theorem dX5_gather_150 : decode cX5_gather 150 = .ok (.iload_n 3, 1) := by decide +kernel
theorem dX5_gather_151 : decode cX5_gather 151 = .ok (.iload_n 2, 1) := by decide +kernel
theorem dX5_gather_152 : decode cX5_gather 152 = .ok (.iadd, 1) := by decide +kernel
theorem dX5_gather_153 : decode cX5_gather 153 = .ok (.iaload, 1) := by decide +kernel
theorem dX5_gather_154 : decode cX5_gather 154 = .ok (.iaload, 1) := by decide +kernel
theorem dX5_gather_155 : decode cX5_gather 155 = .ok (.aload_n 0, 1) := by decide +kernel
theorem dX5_gather_156 : decode cX5_gather 156 = .ok (.getfield 7, 3) := by decide +kernel
theorem dX5_gather_159 : decode cX5_gather 159 = .ok (.aload_n 0, 1) := by decide +kernel
theorem dX5_gather_160 : decode cX5_gather 160 = .ok (.getfield 44, 3) := by decide +kernel
theorem dX5_gather_163 : decode cX5_gather 163 = .ok (.iload_n 3, 1) := by decide +kernel
theorem dX5_gather_164 : decode cX5_gather 164 = .ok (.iaload, 1) := by decide +kernel
theorem dX5_gather_165 : decode cX5_gather 165 = .ok (.iaload, 1) := by decide +kernel
theorem dX5_gather_166 : decode cX5_gather 166 = .ok (.isub, 1) := by decide +kernel
theorem dX5_gather_167 : decode cX5_gather 167 = .ok (.aload_n 0, 1) := by decide +kernel
theorem dX5_gather_168 : decode cX5_gather 168 = .ok (.getfield 26, 3) := by decide +kernel
theorem dX5_gather_171 : decode cX5_gather 171 = .ok (.iconst 4, 1) := by decide +kernel
theorem dX5_gather_172 : decode cX5_gather 172 = .ok (.iaload, 1) := by decide +kernel
theorem dX5_gather_173 : decode cX5_gather 173 = .ok (.if_icmp .ge 7, 3) := by decide +kernel
theorem dX5_gather_176 : decode cX5_gather 176 = .ok (.iconst 1, 1) := by decide +kernel
theorem dX5_gather_177 : decode cX5_gather 177 = .ok (.goto 4, 3) := by decide +kernel
theorem dX5_gather_180 : decode cX5_gather 180 = .ok (.iconst 0, 1) := by decide +kernel
theorem dX5_gather_181 : decode cX5_gather 181 = .ok (.putfield 97, 3) := by decide +kernel
theorem dX5_gather_184 : decode cX5_gather 184 = .ok (.iinc 3 1, 3) := by decide +kernel
theorem dX5_gather_187 : decode cX5_gather 187 = .ok (.goto (-67), 3) := by decide +kernel
theorem dX5_gather_190 : decode cX5_gather 190 = .ok (.aload_n 0, 1) := by decide +kernel
theorem dX5_gather_191 : decode cX5_gather 191 = .ok (.aload_n 0, 1) := by decide +kernel
theorem dX5_gather_192 : decode cX5_gather 192 = .ok (.getfield 97, 3) := by decide +kernel
theorem dX5_gather_195 : decode cX5_gather 195 = .ok (.ifCond .eq 7, 3) := by decide +kernel
theorem dX5_gather_198 : decode cX5_gather 198 = .ok (.iconst 0, 1) := by decide +kernel
theorem dX5_gather_199 : decode cX5_gather 199 = .ok (.goto 7, 3) := by decide +kernel
theorem dX5_gather_202 : decode cX5_gather 202 = .ok (.aload_n 0, 1) := by decide +kernel
theorem dX5_gather_203 : decode cX5_gather 203 = .ok (.getfield 86, 3) := by decide +kernel
theorem dX5_gather_206 : decode cX5_gather 206 = .ok (.putfield 86, 3) := by decide +kernel
theorem dX5_gather_209 : decode cX5_gather 209 = .ok (.aload_n 0, 1) := by decide +kernel
theorem dX5_gather_210 : decode cX5_gather 210 = .ok (.iconst 0, 1) := by decide +kernel
theorem dX5_gather_211 : decode cX5_gather 211 = .ok (.putfield 101, 3) := by decide +kernel
theorem dX5_gather_214 : decode cX5_gather 214 = .ok (.iconst 0, 1) := by decide +kernel
theorem dX5_gather_215 : decode cX5_gather 215 = .ok (.istore_n 3, 1) := by decide +kernel
theorem dX5_gather_216 : decode cX5_gather 216 = .ok (.iload_n 3, 1) := by decide +kernel
theorem dX5_gather_217 : decode cX5_gather 217 = .ok (.aload_n 0, 1) := by decide +kernel
theorem dX5_gather_218 : decode cX5_gather 218 = .ok (.getfield 86, 3) := by decide +kernel
theorem dX5_gather_221 : decode cX5_gather 221 = .ok (.if_icmp .ge 47, 3) := by decide +kernel
theorem dX5_gather_224 : decode cX5_gather 224 = .ok (.aload_n 0, 1) := by decide +kernel
theorem dX5_gather_225 : decode cX5_gather 225 = .ok (.dup, 1) := by decide +kernel
theorem dX5_gather_226 : decode cX5_gather 226 = .ok (.getfield 101, 3) := by decide +kernel
theorem dX5_gather_229 : decode cX5_gather 229 = .ok (.iload_n 3, 1) := by decide +kernel
theorem dX5_gather_230 : decode cX5_gather 230 = .ok (.ifCond .eq 11, 3) := by decide +kernel
theorem dX5_gather_233 : decode cX5_gather 233 = .ok (.aload_n 0, 1) := by decide +kernel
theorem dX5_gather_234 : decode cX5_gather 234 = .ok (.iload_n 3, 1) := by decide +kernel
theorem dX5_gather_235 : decode cX5_gather 235 = .ok (.invokevirtual 104, 3) := by decide +kernel
theorem dX5_gather_238 : decode cX5_gather 238 = .ok (.ifCond .eq 7, 3) := by decide +kernel
theorem dX5_gather_241 : decode cX5_gather 241 = .ok (.iconst 1, 1) := by decide +kernel
theorem dX5_gather_242 : decode cX5_gather 242 = .ok (.goto 4, 3) := by decide +kernel
theorem dX5_gather_245 : decode cX5_gather 245 = .ok (.iconst 0, 1) := by decide +kernel
theorem dX5_gather_246 : decode cX5_gather 246 = .ok (.iadd, 1) := by decide +kernel
theorem dX5_gather_247 : decode cX5_gather 247 = .ok (.putfield 101, 3) := by decide +kernel
theorem dX5_gather_250 : decode cX5_gather 250 = .ok (.aload_n 0, 1) := by decide +kernel
theorem dX5_gather_251 : decode cX5_gather 251 = .ok (.getfield 47, 3) := by decide +kernel
theorem dX5_gather_254 : decode cX5_gather 254 = .ok (.iload_n 3, 1) := by decide +kernel
theorem dX5_gather_255 : decode cX5_gather 255 = .ok (.aload_n 0, 1) := by decide +kernel
theorem dX5_gather_256 : decode cX5_gather 256 = .ok (.getfield 101, 3) := by decide +kernel
theorem dX5_gather_259 : decode cX5_gather 259 = .ok (.iconst 1, 1) := by decide +kernel
theorem dX5_gather_260 : decode cX5_gather 260 = .ok (.isub, 1) := by decide +kernel
theorem dX5_gather_261 : decode cX5_gather 261 = .ok (.iastore, 1) := by decide +kernel
theorem dX5_gather_262 : decode cX5_gather 262 = .ok (.iinc 3 1, 3) := by decide +kernel
theorem dX5_gather_265 : decode cX5_gather 265 = .ok (.goto (-49), 3) := by decide +kernel
theorem dX5_gather_268 : decode cX5_gather 268 = .ok (.return_, 1) := by decide +kernel
theorem dX5_placeIn_0 : decode cX5_placeIn 0 = .ok (.iconst (-1), 1) := by decide +kernel
theorem dX5_placeIn_1 : decode cX5_placeIn 1 = .ok (.istore_n 2, 1) := by decide +kernel
theorem dX5_placeIn_2 : decode cX5_placeIn 2 = .ok (.iconst 0, 1) := by decide +kernel
theorem dX5_placeIn_3 : decode cX5_placeIn 3 = .ok (.istore_n 3, 1) := by decide +kernel
theorem dX5_placeIn_4 : decode cX5_placeIn 4 = .ok (.iload_n 3, 1) := by decide +kernel
theorem dX5_placeIn_5 : decode cX5_placeIn 5 = .ok (.aload_n 0, 1) := by decide +kernel
theorem dX5_placeIn_6 : decode cX5_placeIn 6 = .ok (.getfield 86, 3) := by decide +kernel
theorem dX5_placeIn_9 : decode cX5_placeIn 9 = .ok (.if_icmp .ge 25, 3) := by decide +kernel
theorem dX5_placeIn_12 : decode cX5_placeIn 12 = .ok (.aload_n 0, 1) := by decide +kernel
theorem dX5_placeIn_13 : decode cX5_placeIn 13 = .ok (.getfield 44, 3) := by decide +kernel
theorem dX5_placeIn_16 : decode cX5_placeIn 16 = .ok (.iload_n 3, 1) := by decide +kernel
theorem dX5_placeIn_17 : decode cX5_placeIn 17 = .ok (.iaload, 1) := by decide +kernel
theorem dX5_placeIn_18 : decode cX5_placeIn 18 = .ok (.iload_n 1, 1) := by decide +kernel
theorem dX5_placeIn_19 : decode cX5_placeIn 19 = .ok (.if_icmp .ne 7, 3) := by decide +kernel
theorem dX5_placeIn_22 : decode cX5_placeIn 22 = .ok (.iload_n 3, 1) := by decide +kernel
theorem dX5_placeIn_23 : decode cX5_placeIn 23 = .ok (.goto 4, 3) := by decide +kernel
theorem dX5_placeIn_26 : decode cX5_placeIn 26 = .ok (.iload_n 2, 1) := by decide +kernel
theorem dX5_placeIn_27 : decode cX5_placeIn 27 = .ok (.istore_n 2, 1) := by decide +kernel
theorem dX5_placeIn_28 : decode cX5_placeIn 28 = .ok (.iinc 3 1, 3) := by decide +kernel
theorem dX5_placeIn_31 : decode cX5_placeIn 31 = .ok (.goto (-27), 3) := by decide +kernel
theorem dX5_placeIn_34 : decode cX5_placeIn 34 = .ok (.iload_n 2, 1) := by decide +kernel
theorem dX5_placeIn_35 : decode cX5_placeIn 35 = .ok (.ireturn, 1) := by decide +kernel
theorem dX5_told_0 : decode cX5_told 0 = .ok (.aload_n 0, 1) := by decide +kernel
theorem dX5_told_1 : decode cX5_told 1 = .ok (.iload_n 1, 1) := by decide +kernel
theorem dX5_told_2 : decode cX5_told 2 = .ok (.invokevirtual 77, 3) := by decide +kernel
theorem dX5_told_5 : decode cX5_told 5 = .ok (.ifCond .ne 7, 3) := by decide +kernel
theorem dX5_told_8 : decode cX5_told 8 = .ok (.sipush (-1001), 3) := by decide +kernel
theorem dX5_told_11 : decode cX5_told 11 = .ok (.ireturn, 1) := by decide +kernel
theorem dX5_told_12 : decode cX5_told 12 = .ok (.iload_n 2, 1) := by decide +kernel
theorem dX5_told_13 : decode cX5_told 13 = .ok (.i2l, 1) := by decide +kernel
theorem dX5_told_14 : decode cX5_told 14 = .ok (.lconst 0, 1) := by decide +kernel
theorem dX5_told_15 : decode cX5_told 15 = .ok (.ldc2_w 107, 3) := by decide +kernel
theorem dX5_told_18 : decode cX5_told 18 = .ok (.invokestatic 61, 3) := by decide +kernel
theorem dX5_told_21 : decode cX5_told 21 = .ok (.ifCond .ne 7, 3) := by decide +kernel
theorem dX5_told_24 : decode cX5_told 24 = .ok (.sipush (-1002), 3) := by decide +kernel
theorem dX5_told_27 : decode cX5_told 27 = .ok (.ireturn, 1) := by decide +kernel
theorem dX5_told_28 : decode cX5_told 28 = .ok (.aload_n 0, 1) := by decide +kernel
theorem dX5_told_29 : decode cX5_told 29 = .ok (.aload_n 0, 1) := by decide +kernel
theorem dX5_told_30 : decode cX5_told 30 = .ok (.getfield 13, 3) := by decide +kernel
theorem dX5_told_33 : decode cX5_told 33 = .ok (.iload_n 1, 1) := by decide +kernel
theorem dX5_told_34 : decode cX5_told 34 = .ok (.iaload, 1) := by decide +kernel
theorem dX5_told_35 : decode cX5_told 35 = .ok (.invokevirtual 89, 3) := by decide +kernel
theorem dX5_told_38 : decode cX5_told 38 = .ok (.istore_n 3, 1) := by decide +kernel
theorem dX5_told_39 : decode cX5_told 39 = .ok (.aload_n 0, 1) := by decide +kernel
theorem dX5_told_40 : decode cX5_told 40 = .ok (.iload_n 3, 1) := by decide +kernel
theorem dX5_told_41 : decode cX5_told 41 = .ok (.invokevirtual 109, 3) := by decide +kernel
theorem dX5_told_44 : decode cX5_told 44 = .ok (.aload_n 0, 1) := by decide +kernel
theorem dX5_told_45 : decode cX5_told 45 = .ok (.iload_n 1, 1) := by decide +kernel
theorem dX5_told_46 : decode cX5_told 46 = .ok (.invokevirtual 113, 3) := by decide +kernel
theorem dX5_told_49 : decode cX5_told 49 = .ok (.istore 4, 2) := by decide +kernel
theorem dX5_told_51 : decode cX5_told 51 = .ok (.iload_n 2, 1) := by decide +kernel
theorem dX5_told_52 : decode cX5_told 52 = .ok (.tableswitch 91 0 5 #[40, 47, 54, 61, 63, 74], 40) := by decide +kernel
theorem dX5_told_92 : decode cX5_told 92 = .ok (.aload_n 0, 1) := by decide +kernel
theorem dX5_told_93 : decode cX5_told 93 = .ok (.getfield 7, 3) := by decide +kernel
theorem dX5_told_96 : decode cX5_told 96 = .ok (.iload_n 1, 1) := by decide +kernel
theorem dX5_told_97 : decode cX5_told 97 = .ok (.iaload, 1) := by decide +kernel
theorem dX5_told_98 : decode cX5_told 98 = .ok (.ireturn, 1) := by decide +kernel
theorem dX5_told_99 : decode cX5_told 99 = .ok (.aload_n 0, 1) := by decide +kernel
theorem dX5_told_100 : decode cX5_told 100 = .ok (.getfield 13, 3) := by decide +kernel
theorem dX5_told_103 : decode cX5_told 103 = .ok (.iload_n 1, 1) := by decide +kernel
theorem dX5_told_104 : decode cX5_told 104 = .ok (.iaload, 1) := by decide +kernel
theorem dX5_told_105 : decode cX5_told 105 = .ok (.ireturn, 1) := by decide +kernel
theorem dX5_told_106 : decode cX5_told 106 = .ok (.aload_n 0, 1) := by decide +kernel
theorem dX5_told_107 : decode cX5_told 107 = .ok (.getfield 16, 3) := by decide +kernel
theorem dX5_told_110 : decode cX5_told 110 = .ok (.iload_n 1, 1) := by decide +kernel
theorem dX5_told_111 : decode cX5_told 111 = .ok (.iaload, 1) := by decide +kernel
theorem dX5_told_112 : decode cX5_told 112 = .ok (.ireturn, 1) := by decide +kernel
theorem dX5_told_113 : decode cX5_told 113 = .ok (.iload_n 3, 1) := by decide +kernel
theorem dX5_told_114 : decode cX5_told 114 = .ok (.ireturn, 1) := by decide +kernel
theorem dX5_told_115 : decode cX5_told 115 = .ok (.iload 4, 2) := by decide +kernel
theorem dX5_told_117 : decode cX5_told 117 = .ok (.ifCond .ge 7, 3) := by decide +kernel
theorem dX5_told_120 : decode cX5_told 120 = .ok (.iconst 0, 1) := by decide +kernel
theorem dX5_told_121 : decode cX5_told 121 = .ok (.goto 4, 3) := by decide +kernel
theorem dX5_told_124 : decode cX5_told 124 = .ok (.iconst 1, 1) := by decide +kernel
theorem dX5_told_125 : decode cX5_told 125 = .ok (.ireturn, 1) := by decide +kernel
theorem dX5_told_126 : decode cX5_told 126 = .ok (.iload 4, 2) := by decide +kernel
theorem dX5_told_128 : decode cX5_told 128 = .ok (.ifCond .ge 7, 3) := by decide +kernel
theorem dX5_told_131 : decode cX5_told 131 = .ok (.iconst (-1), 1) := by decide +kernel
theorem dX5_told_132 : decode cX5_told 132 = .ok (.goto 10, 3) := by decide +kernel
theorem dX5_told_135 : decode cX5_told 135 = .ok (.aload_n 0, 1) := by decide +kernel
theorem dX5_told_136 : decode cX5_told 136 = .ok (.getfield 47, 3) := by decide +kernel
theorem dX5_told_139 : decode cX5_told 139 = .ok (.iload 4, 2) := by decide +kernel
theorem dX5_told_141 : decode cX5_told 141 = .ok (.iaload, 1) := by decide +kernel
theorem dX5_told_142 : decode cX5_told 142 = .ok (.ireturn, 1) := by decide +kernel
theorem dX5_told_143 : decode cX5_told 143 = .ok (.iload 4, 2) := by decide +kernel
theorem dX5_told_145 : decode cX5_told 145 = .ok (.ireturn, 1) := by decide +kernel
theorem dX5_clicksOf_0 : decode cX5_clicksOf 0 = .ok (.iconst 0, 1) := by decide +kernel
theorem dX5_clicksOf_1 : decode cX5_clicksOf 1 = .ok (.istore_n 2, 1) := by decide +kernel
theorem dX5_clicksOf_2 : decode cX5_clicksOf 2 = .ok (.iconst 0, 1) := by decide +kernel
theorem dX5_clicksOf_3 : decode cX5_clicksOf 3 = .ok (.istore_n 3, 1) := by decide +kernel
theorem dX5_clicksOf_4 : decode cX5_clicksOf 4 = .ok (.iload_n 3, 1) := by decide +kernel
theorem dX5_clicksOf_5 : decode cX5_clicksOf 5 = .ok (.aload_n 0, 1) := by decide +kernel
theorem dX5_clicksOf_6 : decode cX5_clicksOf 6 = .ok (.getfield 65, 3) := by decide +kernel
theorem dX5_clicksOf_9 : decode cX5_clicksOf 9 = .ok (.if_icmp .ge 31, 3) := by decide +kernel
theorem dX5_clicksOf_12 : decode cX5_clicksOf 12 = .ok (.iload_n 2, 1) := by decide +kernel
theorem dX5_clicksOf_13 : decode cX5_clicksOf 13 = .ok (.aload_n 0, 1) := by decide +kernel
theorem dX5_clicksOf_14 : decode cX5_clicksOf 14 = .ok (.aload_n 0, 1) := by decide +kernel
theorem dX5_clicksOf_15 : decode cX5_clicksOf 15 = .ok (.getfield 13, 3) := by decide +kernel
theorem dX5_clicksOf_18 : decode cX5_clicksOf 18 = .ok (.iload_n 3, 1) := by decide +kernel
theorem dX5_clicksOf_19 : decode cX5_clicksOf 19 = .ok (.iaload, 1) := by decide +kernel
theorem dX5_clicksOf_20 : decode cX5_clicksOf 20 = .ok (.invokevirtual 89, 3) := by decide +kernel
theorem dX5_clicksOf_23 : decode cX5_clicksOf 23 = .ok (.iload_n 1, 1) := by decide +kernel
theorem dX5_clicksOf_24 : decode cX5_clicksOf 24 = .ok (.if_icmp .ne 7, 3) := by decide +kernel
theorem dX5_clicksOf_27 : decode cX5_clicksOf 27 = .ok (.iconst 1, 1) := by decide +kernel
theorem dX5_clicksOf_28 : decode cX5_clicksOf 28 = .ok (.goto 4, 3) := by decide +kernel
theorem dX5_clicksOf_31 : decode cX5_clicksOf 31 = .ok (.iconst 0, 1) := by decide +kernel
theorem dX5_clicksOf_32 : decode cX5_clicksOf 32 = .ok (.iadd, 1) := by decide +kernel
theorem dX5_clicksOf_33 : decode cX5_clicksOf 33 = .ok (.istore_n 2, 1) := by decide +kernel
theorem dX5_clicksOf_34 : decode cX5_clicksOf 34 = .ok (.iinc 3 1, 3) := by decide +kernel
theorem dX5_clicksOf_37 : decode cX5_clicksOf 37 = .ok (.goto (-33), 3) := by decide +kernel
theorem dX5_clicksOf_40 : decode cX5_clicksOf 40 = .ok (.iload_n 2, 1) := by decide +kernel
theorem dX5_clicksOf_41 : decode cX5_clicksOf 41 = .ok (.ireturn, 1) := by decide +kernel
theorem dX5_birth_0 : decode cX5_birth 0 = .ok (.iconst 0, 1) := by decide +kernel
theorem dX5_birth_1 : decode cX5_birth 1 = .ok (.istore_n 1, 1) := by decide +kernel
theorem dX5_birth_2 : decode cX5_birth 2 = .ok (.iload_n 1, 1) := by decide +kernel
theorem dX5_birth_3 : decode cX5_birth 3 = .ok (.aload_n 0, 1) := by decide +kernel
theorem dX5_birth_4 : decode cX5_birth 4 = .ok (.getfield 86, 3) := by decide +kernel
theorem dX5_birth_7 : decode cX5_birth 7 = .ok (.if_icmp .ge 45, 3) := by decide +kernel
theorem dX5_birth_10 : decode cX5_birth 10 = .ok (.aload_n 0, 1) := by decide +kernel
theorem dX5_birth_11 : decode cX5_birth 11 = .ok (.getfield 16, 3) := by decide +kernel
theorem dX5_birth_14 : decode cX5_birth 14 = .ok (.aload_n 0, 1) := by decide +kernel
theorem dX5_birth_15 : decode cX5_birth 15 = .ok (.getfield 44, 3) := by decide +kernel
theorem dX5_birth_18 : decode cX5_birth 18 = .ok (.iload_n 1, 1) := by decide +kernel
theorem dX5_birth_19 : decode cX5_birth 19 = .ok (.iaload, 1) := by decide +kernel
theorem dX5_birth_20 : decode cX5_birth 20 = .ok (.iaload, 1) := by decide +kernel
theorem dX5_birth_21 : decode cX5_birth 21 = .ok (.aload_n 0, 1) := by decide +kernel
theorem dX5_birth_22 : decode cX5_birth 22 = .ok (.getfield 26, 3) := by decide +kernel
theorem dX5_birth_25 : decode cX5_birth 25 = .ok (.iconst 5, 1) := by decide +kernel
theorem dX5_birth_26 : decode cX5_birth 26 = .ok (.iaload, 1) := by decide +kernel
theorem dX5_birth_27 : decode cX5_birth 27 = .ok (.if_icmp .ne 19, 3) := by decide +kernel
theorem dX5_birth_30 : decode cX5_birth 30 = .ok (.aload_n 0, 1) := by decide +kernel
theorem dX5_birth_31 : decode cX5_birth 31 = .ok (.getfield 7, 3) := by decide +kernel
theorem dX5_birth_34 : decode cX5_birth 34 = .ok (.aload_n 0, 1) := by decide +kernel
theorem dX5_birth_35 : decode cX5_birth 35 = .ok (.getfield 44, 3) := by decide +kernel
theorem dX5_birth_38 : decode cX5_birth 38 = .ok (.iload_n 1, 1) := by decide +kernel
theorem dX5_birth_39 : decode cX5_birth 39 = .ok (.iaload, 1) := by decide +kernel
theorem dX5_birth_40 : decode cX5_birth 40 = .ok (.iaload, 1) := by decide +kernel
theorem dX5_birth_41 : decode cX5_birth 41 = .ok (.sipush 10080, 3) := by decide +kernel
theorem dX5_birth_44 : decode cX5_birth 44 = .ok (.idiv, 1) := by decide +kernel
theorem dX5_birth_45 : decode cX5_birth 45 = .ok (.ireturn, 1) := by decide +kernel
theorem dX5_birth_46 : decode cX5_birth 46 = .ok (.iinc 1 1, 3) := by decide +kernel
theorem dX5_birth_49 : decode cX5_birth 49 = .ok (.goto (-47), 3) := by decide +kernel
theorem dX5_birth_52 : decode cX5_birth 52 = .ok (.iconst (-1), 1) := by decide +kernel
theorem dX5_birth_53 : decode cX5_birth 53 = .ok (.ireturn, 1) := by decide +kernel
theorem dX5_person_0 : decode cX5_person 0 = .ok (.iload_n 1, 1) := by decide +kernel
theorem dX5_person_1 : decode cX5_person 1 = .ok (.invokestatic 69, 3) := by decide +kernel
theorem dX5_person_4 : decode cX5_person 4 = .ok (.ifCond .ne 7, 3) := by decide +kernel
theorem dX5_person_7 : decode cX5_person 7 = .ok (.sipush (-1001), 3) := by decide +kernel
theorem dX5_person_10 : decode cX5_person 10 = .ok (.ireturn, 1) := by decide +kernel
theorem dX5_person_11 : decode cX5_person 11 = .ok (.aload_n 0, 1) := by decide +kernel
theorem dX5_person_12 : decode cX5_person 12 = .ok (.iload_n 1, 1) := by decide +kernel
theorem dX5_person_13 : decode cX5_person 13 = .ok (.invokevirtual 89, 3) := by decide +kernel
theorem dX5_person_16 : decode cX5_person 16 = .ok (.istore_n 3, 1) := by decide +kernel
theorem dX5_person_17 : decode cX5_person 17 = .ok (.aload_n 0, 1) := by decide +kernel
theorem dX5_person_18 : decode cX5_person 18 = .ok (.iload_n 3, 1) := by decide +kernel
theorem dX5_person_19 : decode cX5_person 19 = .ok (.invokevirtual 109, 3) := by decide +kernel
theorem dX5_person_22 : decode cX5_person 22 = .ok (.iload_n 2, 1) := by decide +kernel
theorem dX5_person_23 : decode cX5_person 23 = .ok (.tableswitch 73 0 5 #[37, 39, 45, 50, 63, 68], 37) := by decide +kernel
theorem dX5_person_60 : decode cX5_person 60 = .ok (.iload_n 3, 1) := by decide +kernel
theorem dX5_person_61 : decode cX5_person 61 = .ok (.ireturn, 1) := by decide +kernel
theorem dX5_person_62 : decode cX5_person 62 = .ok (.aload_n 0, 1) := by decide +kernel
theorem dX5_person_63 : decode cX5_person 63 = .ok (.iload_n 3, 1) := by decide +kernel
theorem dX5_person_64 : decode cX5_person 64 = .ok (.invokevirtual 116, 3) := by decide +kernel
theorem dX5_person_67 : decode cX5_person 67 = .ok (.ireturn, 1) := by decide +kernel
theorem dX5_person_68 : decode cX5_person 68 = .ok (.aload_n 0, 1) := by decide +kernel
theorem dX5_person_69 : decode cX5_person 69 = .ok (.getfield 86, 3) := by decide +kernel
theorem dX5_person_72 : decode cX5_person 72 = .ok (.ireturn, 1) := by decide +kernel
theorem dX5_person_73 : decode cX5_person 73 = .ok (.aload_n 0, 1) := by decide +kernel
theorem dX5_person_74 : decode cX5_person 74 = .ok (.getfield 97, 3) := by decide +kernel
theorem dX5_person_77 : decode cX5_person 77 = .ok (.ifCond .eq 7, 3) := by decide +kernel
theorem dX5_person_80 : decode cX5_person 80 = .ok (.iconst 1, 1) := by decide +kernel
theorem dX5_person_81 : decode cX5_person 81 = .ok (.goto 4, 3) := by decide +kernel
theorem dX5_person_84 : decode cX5_person 84 = .ok (.iconst 0, 1) := by decide +kernel
theorem dX5_person_85 : decode cX5_person 85 = .ok (.ireturn, 1) := by decide +kernel
theorem dX5_person_86 : decode cX5_person 86 = .ok (.aload_n 0, 1) := by decide +kernel
theorem dX5_person_87 : decode cX5_person 87 = .ok (.getfield 101, 3) := by decide +kernel
theorem dX5_person_90 : decode cX5_person 90 = .ok (.ireturn, 1) := by decide +kernel
theorem dX5_person_91 : decode cX5_person 91 = .ok (.aload_n 0, 1) := by decide +kernel
theorem dX5_person_92 : decode cX5_person 92 = .ok (.invokevirtual 119, 3) := by decide +kernel
theorem dX5_person_95 : decode cX5_person 95 = .ok (.ireturn, 1) := by decide +kernel
theorem dX5_person_96 : decode cX5_person 96 = .ok (.sipush (-1002), 3) := by decide +kernel
theorem dX5_person_99 : decode cX5_person 99 = .ok (.ireturn, 1) := by decide +kernel
theorem dX5_row_0 : decode cX5_row 0 = .ok (.iload_n 1, 1) := by decide +kernel
theorem dX5_row_1 : decode cX5_row 1 = .ok (.invokestatic 69, 3) := by decide +kernel
theorem dX5_row_4 : decode cX5_row 4 = .ok (.ifCond .ne 7, 3) := by decide +kernel
theorem dX5_row_7 : decode cX5_row 7 = .ok (.sipush (-1001), 3) := by decide +kernel
theorem dX5_row_10 : decode cX5_row 10 = .ok (.ireturn, 1) := by decide +kernel
theorem dX5_row_11 : decode cX5_row 11 = .ok (.aload_n 0, 1) := by decide +kernel
theorem dX5_row_12 : decode cX5_row 12 = .ok (.aload_n 0, 1) := by decide +kernel
theorem dX5_row_13 : decode cX5_row 13 = .ok (.iload_n 1, 1) := by decide +kernel
theorem dX5_row_14 : decode cX5_row 14 = .ok (.invokevirtual 89, 3) := by decide +kernel
theorem dX5_row_17 : decode cX5_row 17 = .ok (.invokevirtual 109, 3) := by decide +kernel
theorem dX5_row_20 : decode cX5_row 20 = .ok (.iload_n 2, 1) := by decide +kernel
theorem dX5_row_21 : decode cX5_row 21 = .ok (.i2l, 1) := by decide +kernel
theorem dX5_row_22 : decode cX5_row 22 = .ok (.lconst 0, 1) := by decide +kernel
theorem dX5_row_23 : decode cX5_row 23 = .ok (.aload_n 0, 1) := by decide +kernel
theorem dX5_row_24 : decode cX5_row 24 = .ok (.getfield 86, 3) := by decide +kernel
theorem dX5_row_27 : decode cX5_row 27 = .ok (.iconst 1, 1) := by decide +kernel
theorem dX5_row_28 : decode cX5_row 28 = .ok (.isub, 1) := by decide +kernel
theorem dX5_row_29 : decode cX5_row 29 = .ok (.i2l, 1) := by decide +kernel
theorem dX5_row_30 : decode cX5_row 30 = .ok (.invokestatic 61, 3) := by decide +kernel
theorem dX5_row_33 : decode cX5_row 33 = .ok (.ifCond .eq 12, 3) := by decide +kernel
theorem dX5_row_36 : decode cX5_row 36 = .ok (.aload_n 0, 1) := by decide +kernel
theorem dX5_row_37 : decode cX5_row 37 = .ok (.getfield 44, 3) := by decide +kernel
theorem dX5_row_40 : decode cX5_row 40 = .ok (.iload_n 2, 1) := by decide +kernel
theorem dX5_row_41 : decode cX5_row 41 = .ok (.iaload, 1) := by decide +kernel
theorem dX5_row_42 : decode cX5_row 42 = .ok (.goto 4, 3) := by decide +kernel
theorem dX5_row_45 : decode cX5_row 45 = .ok (.iconst (-1), 1) := by decide +kernel
theorem dX5_row_46 : decode cX5_row 46 = .ok (.ireturn, 1) := by decide +kernel
theorem dX5_sitting_0 : decode cX5_sitting 0 = .ok (.iload_n 1, 1) := by decide +kernel
theorem dX5_sitting_1 : decode cX5_sitting 1 = .ok (.invokestatic 69, 3) := by decide +kernel
theorem dX5_sitting_4 : decode cX5_sitting 4 = .ok (.ifCond .ne 7, 3) := by decide +kernel
theorem dX5_sitting_7 : decode cX5_sitting 7 = .ok (.sipush (-1001), 3) := by decide +kernel
theorem dX5_sitting_10 : decode cX5_sitting 10 = .ok (.ireturn, 1) := by decide +kernel
theorem dX5_sitting_11 : decode cX5_sitting 11 = .ok (.aload_n 0, 1) := by decide +kernel
theorem dX5_sitting_12 : decode cX5_sitting 12 = .ok (.aload_n 0, 1) := by decide +kernel
theorem dX5_sitting_13 : decode cX5_sitting 13 = .ok (.iload_n 1, 1) := by decide +kernel
theorem dX5_sitting_14 : decode cX5_sitting 14 = .ok (.invokevirtual 89, 3) := by decide +kernel
theorem dX5_sitting_17 : decode cX5_sitting 17 = .ok (.invokevirtual 109, 3) := by decide +kernel
theorem dX5_sitting_20 : decode cX5_sitting 20 = .ok (.iload_n 2, 1) := by decide +kernel
theorem dX5_sitting_21 : decode cX5_sitting 21 = .ok (.i2l, 1) := by decide +kernel
theorem dX5_sitting_22 : decode cX5_sitting 22 = .ok (.lconst 0, 1) := by decide +kernel
theorem dX5_sitting_23 : decode cX5_sitting 23 = .ok (.aload_n 0, 1) := by decide +kernel
theorem dX5_sitting_24 : decode cX5_sitting 24 = .ok (.getfield 101, 3) := by decide +kernel
theorem dX5_sitting_27 : decode cX5_sitting 27 = .ok (.iconst 1, 1) := by decide +kernel
theorem dX5_sitting_28 : decode cX5_sitting 28 = .ok (.isub, 1) := by decide +kernel
theorem dX5_sitting_29 : decode cX5_sitting 29 = .ok (.i2l, 1) := by decide +kernel
theorem dX5_sitting_30 : decode cX5_sitting 30 = .ok (.invokestatic 61, 3) := by decide +kernel
theorem dX5_sitting_33 : decode cX5_sitting 33 = .ok (.ifCond .ne 7, 3) := by decide +kernel
theorem dX5_sitting_36 : decode cX5_sitting 36 = .ok (.sipush (-1001), 3) := by decide +kernel
theorem dX5_sitting_39 : decode cX5_sitting 39 = .ok (.ireturn, 1) := by decide +kernel
theorem dX5_sitting_40 : decode cX5_sitting 40 = .ok (.iload_n 3, 1) := by decide +kernel
theorem dX5_sitting_41 : decode cX5_sitting 41 = .ok (.i2l, 1) := by decide +kernel
theorem dX5_sitting_42 : decode cX5_sitting 42 = .ok (.lconst 0, 1) := by decide +kernel
theorem dX5_sitting_43 : decode cX5_sitting 43 = .ok (.ldc2_w 123, 3) := by decide +kernel
theorem dX5_sitting_46 : decode cX5_sitting 46 = .ok (.invokestatic 61, 3) := by decide +kernel
theorem dX5_sitting_49 : decode cX5_sitting 49 = .ok (.ifCond .ne 7, 3) := by decide +kernel
theorem dX5_sitting_52 : decode cX5_sitting 52 = .ok (.sipush (-1002), 3) := by decide +kernel
theorem dX5_sitting_55 : decode cX5_sitting 55 = .ok (.ireturn, 1) := by decide +kernel
theorem dX5_sitting_56 : decode cX5_sitting 56 = .ok (.iconst (-1), 1) := by decide +kernel
theorem dX5_sitting_57 : decode cX5_sitting 57 = .ok (.istore 4, 2) := by decide +kernel
theorem dX5_sitting_59 : decode cX5_sitting 59 = .ok (.iconst (-1), 1) := by decide +kernel
theorem dX5_sitting_60 : decode cX5_sitting 60 = .ok (.istore 5, 2) := by decide +kernel
theorem dX5_sitting_62 : decode cX5_sitting 62 = .ok (.iconst 0, 1) := by decide +kernel
theorem dX5_sitting_63 : decode cX5_sitting 63 = .ok (.istore 6, 2) := by decide +kernel
theorem dX5_sitting_65 : decode cX5_sitting 65 = .ok (.iconst 0, 1) := by decide +kernel
theorem dX5_sitting_66 : decode cX5_sitting 66 = .ok (.istore 7, 2) := by decide +kernel
theorem dX5_sitting_68 : decode cX5_sitting 68 = .ok (.iload 7, 2) := by decide +kernel
theorem dX5_sitting_70 : decode cX5_sitting 70 = .ok (.aload_n 0, 1) := by decide +kernel
theorem dX5_sitting_71 : decode cX5_sitting 71 = .ok (.getfield 86, 3) := by decide +kernel
theorem dX5_sitting_74 : decode cX5_sitting 74 = .ok (.if_icmp .ge 51, 3) := by decide +kernel
theorem dX5_sitting_77 : decode cX5_sitting 77 = .ok (.aload_n 0, 1) := by decide +kernel
theorem dX5_sitting_78 : decode cX5_sitting 78 = .ok (.getfield 47, 3) := by decide +kernel
theorem dX5_sitting_81 : decode cX5_sitting 81 = .ok (.iload 7, 2) := by decide +kernel
theorem dX5_sitting_83 : decode cX5_sitting 83 = .ok (.iaload, 1) := by decide +kernel
theorem dX5_sitting_84 : decode cX5_sitting 84 = .ok (.iload_n 2, 1) := by decide +kernel
theorem dX5_sitting_85 : decode cX5_sitting 85 = .ok (.if_icmp .ne 34, 3) := by decide +kernel
theorem dX5_sitting_88 : decode cX5_sitting 88 = .ok (.iload 4, 2) := by decide +kernel
theorem dX5_sitting_90 : decode cX5_sitting 90 = .ok (.ifCond .ge 13, 3) := by decide +kernel
theorem dX5_sitting_93 : decode cX5_sitting 93 = .ok (.aload_n 0, 1) := by decide +kernel
theorem dX5_sitting_94 : decode cX5_sitting 94 = .ok (.getfield 44, 3) := by decide +kernel
theorem dX5_sitting_97 : decode cX5_sitting 97 = .ok (.iload 7, 2) := by decide +kernel
theorem dX5_sitting_99 : decode cX5_sitting 99 = .ok (.iaload, 1) := by decide +kernel
theorem dX5_sitting_100 : decode cX5_sitting 100 = .ok (.goto 5, 3) := by decide +kernel
theorem dX5_sitting_103 : decode cX5_sitting 103 = .ok (.iload 4, 2) := by decide +kernel
theorem dX5_sitting_105 : decode cX5_sitting 105 = .ok (.istore 4, 2) := by decide +kernel
theorem dX5_sitting_107 : decode cX5_sitting 107 = .ok (.aload_n 0, 1) := by decide +kernel
theorem dX5_sitting_108 : decode cX5_sitting 108 = .ok (.getfield 44, 3) := by decide +kernel
theorem dX5_sitting_111 : decode cX5_sitting 111 = .ok (.iload 7, 2) := by decide +kernel
theorem dX5_sitting_113 : decode cX5_sitting 113 = .ok (.iaload, 1) := by decide +kernel
theorem dX5_sitting_114 : decode cX5_sitting 114 = .ok (.istore 5, 2) := by decide +kernel
theorem dX5_sitting_116 : decode cX5_sitting 116 = .ok (.iinc 6 1, 3) := by decide +kernel
theorem dX5_sitting_119 : decode cX5_sitting 119 = .ok (.iinc 7 1, 3) := by decide +kernel
theorem dX5_sitting_122 : decode cX5_sitting 122 = .ok (.goto (-54), 3) := by decide +kernel
theorem dX5_sitting_125 : decode cX5_sitting 125 = .ok (.iload_n 3, 1) := by decide +kernel
theorem dX5_sitting_126 : decode cX5_sitting 126 = .ok (.ifCond .ne 8, 3) := by decide +kernel
theorem dX5_sitting_129 : decode cX5_sitting 129 = .ok (.iload 4, 2) := by decide +kernel
theorem dX5_sitting_131 : decode cX5_sitting 131 = .ok (.goto 38, 3) := by decide +kernel
theorem dX5_sitting_134 : decode cX5_sitting 134 = .ok (.iload_n 3, 1) := by decide +kernel
theorem dX5_sitting_135 : decode cX5_sitting 135 = .ok (.iconst 1, 1) := by decide +kernel
theorem dX5_sitting_136 : decode cX5_sitting 136 = .ok (.if_icmp .ne 8, 3) := by decide +kernel
theorem dX5_sitting_139 : decode cX5_sitting 139 = .ok (.iload 5, 2) := by decide +kernel
theorem dX5_sitting_141 : decode cX5_sitting 141 = .ok (.goto 28, 3) := by decide +kernel
theorem dX5_sitting_144 : decode cX5_sitting 144 = .ok (.iload_n 3, 1) := by decide +kernel
theorem dX5_sitting_145 : decode cX5_sitting 145 = .ok (.iconst 2, 1) := by decide +kernel
theorem dX5_sitting_146 : decode cX5_sitting 146 = .ok (.if_icmp .ne 8, 3) := by decide +kernel
theorem dX5_sitting_149 : decode cX5_sitting 149 = .ok (.iload 6, 2) := by decide +kernel
theorem dX5_sitting_151 : decode cX5_sitting 151 = .ok (.goto 18, 3) := by decide +kernel
theorem dX5_sitting_154 : decode cX5_sitting 154 = .ok (.aload_n 0, 1) := by decide +kernel
theorem dX5_sitting_155 : decode cX5_sitting 155 = .ok (.getfield 7, 3) := by decide +kernel
theorem dX5_sitting_158 : decode cX5_sitting 158 = .ok (.iload 5, 2) := by decide +kernel
theorem dX5_sitting_160 : decode cX5_sitting 160 = .ok (.iaload, 1) := by decide +kernel
theorem dX5_sitting_161 : decode cX5_sitting 161 = .ok (.aload_n 0, 1) := by decide +kernel
theorem dX5_sitting_162 : decode cX5_sitting 162 = .ok (.getfield 7, 3) := by decide +kernel
theorem dX5_sitting_165 : decode cX5_sitting 165 = .ok (.iload 4, 2) := by decide +kernel
theorem dX5_sitting_167 : decode cX5_sitting 167 = .ok (.iaload, 1) := by decide +kernel
theorem dX5_sitting_168 : decode cX5_sitting 168 = .ok (.isub, 1) := by decide +kernel
theorem dX5_sitting_169 : decode cX5_sitting 169 = .ok (.ireturn, 1) := by decide +kernel
theorem dX5_counted_0 : decode cX5_counted 0 = .ok (.iload_n 1, 1) := by decide +kernel
theorem dX5_counted_1 : decode cX5_counted 1 = .ok (.iconst 1, 1) := by decide +kernel
theorem dX5_counted_2 : decode cX5_counted 2 = .ok (.if_icmp .ne 10, 3) := by decide +kernel
theorem dX5_counted_5 : decode cX5_counted 5 = .ok (.aload_n 0, 1) := by decide +kernel
theorem dX5_counted_6 : decode cX5_counted 6 = .ok (.getfield 86, 3) := by decide +kernel
theorem dX5_counted_9 : decode cX5_counted 9 = .ok (.goto 47, 3) := by decide +kernel
theorem dX5_counted_12 : decode cX5_counted 12 = .ok (.iload_n 1, 1) := by decide +kernel
theorem dX5_counted_13 : decode cX5_counted 13 = .ok (.iconst 2, 1) := by decide +kernel
theorem dX5_counted_14 : decode cX5_counted 14 = .ok (.if_icmp .ne 10, 3) := by decide +kernel
theorem dX5_counted_17 : decode cX5_counted 17 = .ok (.aload_n 0, 1) := by decide +kernel
theorem dX5_counted_18 : decode cX5_counted 18 = .ok (.getfield 101, 3) := by decide +kernel
theorem dX5_counted_21 : decode cX5_counted 21 = .ok (.goto 35, 3) := by decide +kernel
theorem dX5_counted_24 : decode cX5_counted 24 = .ok (.iload_n 1, 1) := by decide +kernel
theorem dX5_counted_25 : decode cX5_counted 25 = .ok (.iconst 3, 1) := by decide +kernel
theorem dX5_counted_26 : decode cX5_counted 26 = .ok (.if_icmp .ne 18, 3) := by decide +kernel
theorem dX5_counted_29 : decode cX5_counted 29 = .ok (.aload_n 0, 1) := by decide +kernel
theorem dX5_counted_30 : decode cX5_counted 30 = .ok (.getfield 86, 3) := by decide +kernel
theorem dX5_counted_33 : decode cX5_counted 33 = .ok (.ifCond .le 7, 3) := by decide +kernel
theorem dX5_counted_36 : decode cX5_counted 36 = .ok (.iconst 1, 1) := by decide +kernel
theorem dX5_counted_37 : decode cX5_counted 37 = .ok (.goto 19, 3) := by decide +kernel
theorem dX5_counted_40 : decode cX5_counted 40 = .ok (.iconst 0, 1) := by decide +kernel
theorem dX5_counted_41 : decode cX5_counted 41 = .ok (.goto 15, 3) := by decide +kernel
theorem dX5_counted_44 : decode cX5_counted 44 = .ok (.aload_n 0, 1) := by decide +kernel
theorem dX5_counted_45 : decode cX5_counted 45 = .ok (.getfield 97, 3) := by decide +kernel
theorem dX5_counted_48 : decode cX5_counted 48 = .ok (.ifCond .eq 7, 3) := by decide +kernel
theorem dX5_counted_51 : decode cX5_counted 51 = .ok (.iconst 1, 1) := by decide +kernel
theorem dX5_counted_52 : decode cX5_counted 52 = .ok (.goto 4, 3) := by decide +kernel
theorem dX5_counted_55 : decode cX5_counted 55 = .ok (.iconst 0, 1) := by decide +kernel
theorem dX5_counted_56 : decode cX5_counted 56 = .ok (.ireturn, 1) := by decide +kernel
theorem dX5_count_0 : decode cX5_count 0 = .ok (.iload_n 1, 1) := by decide +kernel
theorem dX5_count_1 : decode cX5_count 1 = .ok (.i2l, 1) := by decide +kernel
theorem dX5_count_2 : decode cX5_count 2 = .ok (.lconst 0, 1) := by decide +kernel
theorem dX5_count_3 : decode cX5_count 3 = .ok (.ldc2_w 107, 3) := by decide +kernel
theorem dX5_count_6 : decode cX5_count 6 = .ok (.invokestatic 61, 3) := by decide +kernel
theorem dX5_count_9 : decode cX5_count 9 = .ok (.ifCond .ne 7, 3) := by decide +kernel
theorem dX5_count_12 : decode cX5_count 12 = .ok (.sipush (-1002), 3) := by decide +kernel
theorem dX5_count_15 : decode cX5_count 15 = .ok (.ireturn, 1) := by decide +kernel
theorem dX5_count_16 : decode cX5_count 16 = .ok (.iconst 0, 1) := by decide +kernel
theorem dX5_count_17 : decode cX5_count 17 = .ok (.istore_n 2, 1) := by decide +kernel
theorem dX5_count_18 : decode cX5_count 18 = .ok (.iconst 0, 1) := by decide +kernel
theorem dX5_count_19 : decode cX5_count 19 = .ok (.istore_n 3, 1) := by decide +kernel
theorem dX5_count_20 : decode cX5_count 20 = .ok (.iload_n 3, 1) := by decide +kernel
theorem dX5_count_21 : decode cX5_count 21 = .ok (.bipush 24, 2) := by decide +kernel
theorem dX5_count_23 : decode cX5_count 23 = .ok (.if_icmp .ge 59, 3) := by decide +kernel
theorem dX5_count_26 : decode cX5_count 26 = .ok (.aload_n 0, 1) := by decide +kernel
theorem dX5_count_27 : decode cX5_count 27 = .ok (.getfield 23, 3) := by decide +kernel
theorem dX5_count_30 : decode cX5_count 30 = .ok (.iload_n 3, 1) := by decide +kernel
theorem dX5_count_31 : decode cX5_count 31 = .ok (.iaload, 1) := by decide +kernel
theorem dX5_count_32 : decode cX5_count 32 = .ok (.ifCond .lt 19, 3) := by decide +kernel
theorem dX5_count_35 : decode cX5_count 35 = .ok (.iload_n 2, 1) := by decide +kernel
theorem dX5_count_36 : decode cX5_count 36 = .ok (.iload_n 1, 1) := by decide +kernel
theorem dX5_count_37 : decode cX5_count 37 = .ok (.iconst 5, 1) := by decide +kernel
theorem dX5_count_38 : decode cX5_count 38 = .ok (.if_icmp .ne 7, 3) := by decide +kernel
theorem dX5_count_41 : decode cX5_count 41 = .ok (.iconst 1, 1) := by decide +kernel
theorem dX5_count_42 : decode cX5_count 42 = .ok (.goto 4, 3) := by decide +kernel
theorem dX5_count_45 : decode cX5_count 45 = .ok (.iconst 0, 1) := by decide +kernel
theorem dX5_count_46 : decode cX5_count 46 = .ok (.iadd, 1) := by decide +kernel
theorem dX5_count_47 : decode cX5_count 47 = .ok (.istore_n 2, 1) := by decide +kernel
theorem dX5_count_48 : decode cX5_count 48 = .ok (.goto 28, 3) := by decide +kernel
theorem dX5_count_51 : decode cX5_count 51 = .ok (.iload_n 1, 1) := by decide +kernel
theorem dX5_count_52 : decode cX5_count 52 = .ok (.i2l, 1) := by decide +kernel
theorem dX5_count_53 : decode cX5_count 53 = .ok (.lconst 1, 1) := by decide +kernel
theorem dX5_count_54 : decode cX5_count 54 = .ok (.ldc2_w 125, 3) := by decide +kernel
theorem dX5_count_57 : decode cX5_count 57 = .ok (.invokestatic 61, 3) := by decide +kernel
theorem dX5_count_60 : decode cX5_count 60 = .ok (.ifCond .eq 16, 3) := by decide +kernel
theorem dX5_count_63 : decode cX5_count 63 = .ok (.aload_n 0, 1) := by decide +kernel
theorem dX5_count_64 : decode cX5_count 64 = .ok (.iload_n 3, 1) := by decide +kernel
theorem dX5_count_65 : decode cX5_count 65 = .ok (.invokevirtual 109, 3) := by decide +kernel
theorem dX5_count_68 : decode cX5_count 68 = .ok (.iload_n 2, 1) := by decide +kernel
theorem dX5_count_69 : decode cX5_count 69 = .ok (.aload_n 0, 1) := by decide +kernel
theorem dX5_count_70 : decode cX5_count 70 = .ok (.iload_n 1, 1) := by decide +kernel
theorem dX5_count_71 : decode cX5_count 71 = .ok (.invokevirtual 127, 3) := by decide +kernel
theorem dX5_count_74 : decode cX5_count 74 = .ok (.iadd, 1) := by decide +kernel
theorem dX5_count_75 : decode cX5_count 75 = .ok (.istore_n 2, 1) := by decide +kernel
theorem dX5_count_76 : decode cX5_count 76 = .ok (.iinc 3 1, 3) := by decide +kernel
theorem dX5_count_79 : decode cX5_count 79 = .ok (.goto (-59), 3) := by decide +kernel
theorem dX5_count_82 : decode cX5_count 82 = .ok (.iload_n 1, 1) := by decide +kernel
theorem dX5_count_83 : decode cX5_count 83 = .ok (.ifCond .ne 10, 3) := by decide +kernel
theorem dX5_count_86 : decode cX5_count 86 = .ok (.aload_n 0, 1) := by decide +kernel
theorem dX5_count_87 : decode cX5_count 87 = .ok (.getfield 65, 3) := by decide +kernel
theorem dX5_count_90 : decode cX5_count 90 = .ok (.goto 17, 3) := by decide +kernel
theorem dX5_count_93 : decode cX5_count 93 = .ok (.iload_n 1, 1) := by decide +kernel
theorem dX5_count_94 : decode cX5_count 94 = .ok (.bipush 6, 2) := by decide +kernel
theorem dX5_count_96 : decode cX5_count 96 = .ok (.if_icmp .ne 10, 3) := by decide +kernel
theorem dX5_count_99 : decode cX5_count 99 = .ok (.aload_n 0, 1) := by decide +kernel
theorem dX5_count_100 : decode cX5_count 100 = .ok (.getfield 130, 3) := by decide +kernel
theorem dX5_count_103 : decode cX5_count 103 = .ok (.goto 4, 3) := by decide +kernel
theorem dX5_count_106 : decode cX5_count 106 = .ok (.iload_n 2, 1) := by decide +kernel
theorem dX5_count_107 : decode cX5_count 107 = .ok (.ireturn, 1) := by decide +kernel
theorem dX5_funnel_0 : decode cX5_funnel 0 = .ok (.iload_n 2, 1) := by decide +kernel
theorem dX5_funnel_1 : decode cX5_funnel 1 = .ok (.i2l, 1) := by decide +kernel
theorem dX5_funnel_2 : decode cX5_funnel 2 = .ok (.lconst 0, 1) := by decide +kernel
theorem dX5_funnel_3 : decode cX5_funnel 3 = .ok (.ldc2_w 133, 3) := by decide +kernel
theorem dX5_funnel_6 : decode cX5_funnel 6 = .ok (.invokestatic 61, 3) := by decide +kernel
theorem dX5_funnel_9 : decode cX5_funnel 9 = .ok (.ifCond .eq 17, 3) := by decide +kernel
theorem dX5_funnel_12 : decode cX5_funnel 12 = .ok (.iload_n 3, 1) := by decide +kernel
theorem dX5_funnel_13 : decode cX5_funnel 13 = .ok (.i2l, 1) := by decide +kernel
theorem dX5_funnel_14 : decode cX5_funnel 14 = .ok (.ldc2_w 135, 3) := by decide +kernel
theorem dX5_funnel_17 : decode cX5_funnel 17 = .ok (.ldc2_w 75, 3) := by decide +kernel
theorem dX5_funnel_20 : decode cX5_funnel 20 = .ok (.invokestatic 61, 3) := by decide +kernel
theorem dX5_funnel_23 : decode cX5_funnel 23 = .ok (.ifCond .ne 7, 3) := by decide +kernel
theorem dX5_funnel_26 : decode cX5_funnel 26 = .ok (.sipush (-1002), 3) := by decide +kernel
theorem dX5_funnel_29 : decode cX5_funnel 29 = .ok (.ireturn, 1) := by decide +kernel
theorem dX5_funnel_30 : decode cX5_funnel 30 = .ok (.aload_n 0, 1) := by decide +kernel
theorem dX5_funnel_31 : decode cX5_funnel 31 = .ok (.getfield 130, 3) := by decide +kernel
theorem dX5_funnel_34 : decode cX5_funnel 34 = .ok (.bipush 6, 2) := by decide +kernel
theorem dX5_funnel_36 : decode cX5_funnel 36 = .ok (.if_icmp .ne 7, 3) := by decide +kernel
theorem dX5_funnel_39 : decode cX5_funnel 39 = .ok (.sipush (-1004), 3) := by decide +kernel
theorem dX5_funnel_42 : decode cX5_funnel 42 = .ok (.ireturn, 1) := by decide +kernel
theorem dX5_funnel_43 : decode cX5_funnel 43 = .ok (.aload_n 0, 1) := by decide +kernel
theorem dX5_funnel_44 : decode cX5_funnel 44 = .ok (.getfield 29, 3) := by decide +kernel
theorem dX5_funnel_47 : decode cX5_funnel 47 = .ok (.aload_n 0, 1) := by decide +kernel
theorem dX5_funnel_48 : decode cX5_funnel 48 = .ok (.getfield 130, 3) := by decide +kernel
theorem dX5_funnel_51 : decode cX5_funnel 51 = .ok (.iload_n 1, 1) := by decide +kernel
theorem dX5_funnel_52 : decode cX5_funnel 52 = .ok (.bastore, 1) := by decide +kernel
theorem dX5_funnel_53 : decode cX5_funnel 53 = .ok (.aload_n 0, 1) := by decide +kernel
theorem dX5_funnel_54 : decode cX5_funnel 54 = .ok (.getfield 32, 3) := by decide +kernel
theorem dX5_funnel_57 : decode cX5_funnel 57 = .ok (.aload_n 0, 1) := by decide +kernel
theorem dX5_funnel_58 : decode cX5_funnel 58 = .ok (.getfield 130, 3) := by decide +kernel
theorem dX5_funnel_61 : decode cX5_funnel 61 = .ok (.iload_n 2, 1) := by decide +kernel
theorem dX5_funnel_62 : decode cX5_funnel 62 = .ok (.iastore, 1) := by decide +kernel
theorem dX5_funnel_63 : decode cX5_funnel 63 = .ok (.aload_n 0, 1) := by decide +kernel
theorem dX5_funnel_64 : decode cX5_funnel 64 = .ok (.getfield 35, 3) := by decide +kernel
theorem dX5_funnel_67 : decode cX5_funnel 67 = .ok (.aload_n 0, 1) := by decide +kernel
theorem dX5_funnel_68 : decode cX5_funnel 68 = .ok (.getfield 130, 3) := by decide +kernel
theorem dX5_funnel_71 : decode cX5_funnel 71 = .ok (.iload_n 3, 1) := by decide +kernel
theorem dX5_funnel_72 : decode cX5_funnel 72 = .ok (.iastore, 1) := by decide +kernel
theorem dX5_funnel_73 : decode cX5_funnel 73 = .ok (.aload_n 0, 1) := by decide +kernel
theorem dX5_funnel_74 : decode cX5_funnel 74 = .ok (.getfield 38, 3) := by decide +kernel
theorem dX5_funnel_77 : decode cX5_funnel 77 = .ok (.aload_n 0, 1) := by decide +kernel
theorem dX5_funnel_78 : decode cX5_funnel 78 = .ok (.getfield 130, 3) := by decide +kernel
theorem dX5_funnel_81 : decode cX5_funnel 81 = .ok (.iconst 0, 1) := by decide +kernel
theorem dX5_funnel_82 : decode cX5_funnel 82 = .ok (.iastore, 1) := by decide +kernel
theorem dX5_funnel_83 : decode cX5_funnel 83 = .ok (.aload_n 0, 1) := by decide +kernel
theorem dX5_funnel_84 : decode cX5_funnel 84 = .ok (.dup, 1) := by decide +kernel
theorem dX5_funnel_85 : decode cX5_funnel 85 = .ok (.getfield 130, 3) := by decide +kernel
theorem dX5_funnel_88 : decode cX5_funnel 88 = .ok (.iconst 1, 1) := by decide +kernel
theorem dX5_funnel_89 : decode cX5_funnel 89 = .ok (.iadd, 1) := by decide +kernel
theorem dX5_funnel_90 : decode cX5_funnel 90 = .ok (.putfield 130, 3) := by decide +kernel
theorem dX5_funnel_93 : decode cX5_funnel 93 = .ok (.aload_n 0, 1) := by decide +kernel
theorem dX5_funnel_94 : decode cX5_funnel 94 = .ok (.getfield 130, 3) := by decide +kernel
theorem dX5_funnel_97 : decode cX5_funnel 97 = .ok (.iconst 1, 1) := by decide +kernel
theorem dX5_funnel_98 : decode cX5_funnel 98 = .ok (.isub, 1) := by decide +kernel
theorem dX5_funnel_99 : decode cX5_funnel 99 = .ok (.ireturn, 1) := by decide +kernel
theorem dX5_isFunnel_0 : decode cX5_isFunnel 0 = .ok (.iload_n 1, 1) := by decide +kernel
theorem dX5_isFunnel_1 : decode cX5_isFunnel 1 = .ok (.i2l, 1) := by decide +kernel
theorem dX5_isFunnel_2 : decode cX5_isFunnel 2 = .ok (.lconst 0, 1) := by decide +kernel
theorem dX5_isFunnel_3 : decode cX5_isFunnel 3 = .ok (.aload_n 0, 1) := by decide +kernel
theorem dX5_isFunnel_4 : decode cX5_isFunnel 4 = .ok (.getfield 130, 3) := by decide +kernel
theorem dX5_isFunnel_7 : decode cX5_isFunnel 7 = .ok (.iconst 1, 1) := by decide +kernel
theorem dX5_isFunnel_8 : decode cX5_isFunnel 8 = .ok (.isub, 1) := by decide +kernel
theorem dX5_isFunnel_9 : decode cX5_isFunnel 9 = .ok (.i2l, 1) := by decide +kernel
theorem dX5_isFunnel_10 : decode cX5_isFunnel 10 = .ok (.invokestatic 61, 3) := by decide +kernel
theorem dX5_isFunnel_13 : decode cX5_isFunnel 13 = .ok (.ireturn, 1) := by decide +kernel
theorem dX5_step_0 : decode cX5_step 0 = .ok (.aload_n 0, 1) := by decide +kernel
theorem dX5_step_1 : decode cX5_step 1 = .ok (.iload_n 1, 1) := by decide +kernel
theorem dX5_step_2 : decode cX5_step 2 = .ok (.invokevirtual 137, 3) := by decide +kernel
theorem dX5_step_5 : decode cX5_step 5 = .ok (.ifCond .ne 7, 3) := by decide +kernel
theorem dX5_step_8 : decode cX5_step 8 = .ok (.sipush (-1001), 3) := by decide +kernel
theorem dX5_step_11 : decode cX5_step 11 = .ok (.ireturn, 1) := by decide +kernel
theorem dX5_step_12 : decode cX5_step 12 = .ok (.iload_n 2, 1) := by decide +kernel
theorem dX5_step_13 : decode cX5_step 13 = .ok (.i2l, 1) := by decide +kernel
theorem dX5_step_14 : decode cX5_step 14 = .ok (.lconst 0, 1) := by decide +kernel
theorem dX5_step_15 : decode cX5_step 15 = .ok (.ldc2_w 75, 3) := by decide +kernel
theorem dX5_step_18 : decode cX5_step 18 = .ok (.invokestatic 61, 3) := by decide +kernel
theorem dX5_step_21 : decode cX5_step 21 = .ok (.ifCond .ne 7, 3) := by decide +kernel
theorem dX5_step_24 : decode cX5_step 24 = .ok (.sipush (-1002), 3) := by decide +kernel
theorem dX5_step_27 : decode cX5_step 27 = .ok (.ireturn, 1) := by decide +kernel
theorem dX5_step_28 : decode cX5_step 28 = .ok (.aload_n 0, 1) := by decide +kernel
theorem dX5_step_29 : decode cX5_step 29 = .ok (.getfield 38, 3) := by decide +kernel
theorem dX5_step_32 : decode cX5_step 32 = .ok (.iload_n 1, 1) := by decide +kernel
theorem dX5_step_33 : decode cX5_step 33 = .ok (.iaload, 1) := by decide +kernel
theorem dX5_step_34 : decode cX5_step 34 = .ok (.iconst 4, 1) := by decide +kernel
theorem dX5_step_35 : decode cX5_step 35 = .ok (.if_icmp .ne 7, 3) := by decide +kernel
theorem dX5_step_38 : decode cX5_step 38 = .ok (.sipush (-1004), 3) := by decide +kernel
theorem dX5_step_41 : decode cX5_step 41 = .ok (.ireturn, 1) := by decide +kernel
theorem dX5_step_42 : decode cX5_step 42 = .ok (.aload_n 0, 1) := by decide +kernel
theorem dX5_step_43 : decode cX5_step 43 = .ok (.getfield 41, 3) := by decide +kernel
theorem dX5_step_46 : decode cX5_step 46 = .ok (.iconst 4, 1) := by decide +kernel
theorem dX5_step_47 : decode cX5_step 47 = .ok (.iload_n 1, 1) := by decide +kernel
theorem dX5_step_48 : decode cX5_step 48 = .ok (.imul, 1) := by decide +kernel
theorem dX5_step_49 : decode cX5_step 49 = .ok (.aload_n 0, 1) := by decide +kernel
theorem dX5_step_50 : decode cX5_step 50 = .ok (.getfield 38, 3) := by decide +kernel
theorem dX5_step_53 : decode cX5_step 53 = .ok (.iload_n 1, 1) := by decide +kernel
theorem dX5_step_54 : decode cX5_step 54 = .ok (.iaload, 1) := by decide +kernel
theorem dX5_step_55 : decode cX5_step 55 = .ok (.iadd, 1) := by decide +kernel
theorem dX5_step_56 : decode cX5_step 56 = .ok (.iload_n 2, 1) := by decide +kernel
theorem dX5_step_57 : decode cX5_step 57 = .ok (.iastore, 1) := by decide +kernel
theorem dX5_step_58 : decode cX5_step 58 = .ok (.aload_n 0, 1) := by decide +kernel
theorem dX5_step_59 : decode cX5_step 59 = .ok (.getfield 38, 3) := by decide +kernel
theorem dX5_step_62 : decode cX5_step 62 = .ok (.iload_n 1, 1) := by decide +kernel
theorem dX5_step_63 : decode cX5_step 63 = .ok (.dup2, 1) := by decide +kernel
theorem dX5_step_64 : decode cX5_step 64 = .ok (.iaload, 1) := by decide +kernel
theorem dX5_step_65 : decode cX5_step 65 = .ok (.iconst 1, 1) := by decide +kernel
theorem dX5_step_66 : decode cX5_step 66 = .ok (.iadd, 1) := by decide +kernel
theorem dX5_step_67 : decode cX5_step 67 = .ok (.iastore, 1) := by decide +kernel
theorem dX5_step_68 : decode cX5_step 68 = .ok (.aload_n 0, 1) := by decide +kernel
theorem dX5_step_69 : decode cX5_step 69 = .ok (.getfield 38, 3) := by decide +kernel
theorem dX5_step_72 : decode cX5_step 72 = .ok (.iload_n 1, 1) := by decide +kernel
theorem dX5_step_73 : decode cX5_step 73 = .ok (.iaload, 1) := by decide +kernel
theorem dX5_step_74 : decode cX5_step 74 = .ok (.ireturn, 1) := by decide +kernel
theorem dX5_suits_0 : decode cX5_suits 0 = .ok (.iconst 0, 1) := by decide +kernel
theorem dX5_suits_1 : decode cX5_suits 1 = .ok (.istore 5, 2) := by decide +kernel
theorem dX5_suits_3 : decode cX5_suits 3 = .ok (.iconst 0, 1) := by decide +kernel
theorem dX5_suits_4 : decode cX5_suits 4 = .ok (.istore 6, 2) := by decide +kernel
theorem dX5_suits_6 : decode cX5_suits 6 = .ok (.iload 6, 2) := by decide +kernel
theorem dX5_suits_8 : decode cX5_suits 8 = .ok (.bipush 8, 2) := by decide +kernel
theorem dX5_suits_10 : decode cX5_suits 10 = .ok (.if_icmp .ge 108, 3) := by decide +kernel
theorem dX5_suits_13 : decode cX5_suits 13 = .ok (.iconst 0, 1) := by decide +kernel
theorem dX5_suits_14 : decode cX5_suits 14 = .ok (.istore 7, 2) := by decide +kernel
theorem dX5_suits_16 : decode cX5_suits 16 = .ok (.iconst 0, 1) := by decide +kernel
theorem dX5_suits_17 : decode cX5_suits 17 = .ok (.istore 8, 2) := by decide +kernel
theorem dX5_suits_19 : decode cX5_suits 19 = .ok (.iload 8, 2) := by decide +kernel
theorem dX5_suits_21 : decode cX5_suits 21 = .ok (.iload_n 2, 1) := by decide +kernel
theorem dX5_suits_22 : decode cX5_suits 22 = .ok (.if_icmp .ge 48, 3) := by decide +kernel
theorem dX5_suits_25 : decode cX5_suits 25 = .ok (.iload 7, 2) := by decide +kernel
theorem dX5_suits_27 : decode cX5_suits 27 = .ok (.iload 8, 2) := by decide +kernel
theorem dX5_suits_29 : decode cX5_suits 29 = .ok (.iload_n 3, 1) := by decide +kernel
theorem dX5_suits_30 : decode cX5_suits 30 = .ok (.if_icmp .eq 30, 3) := by decide +kernel
theorem dX5_suits_33 : decode cX5_suits 33 = .ok (.iload 8, 2) := by decide +kernel
theorem dX5_suits_35 : decode cX5_suits 35 = .ok (.iload 4, 2) := by decide +kernel
theorem dX5_suits_37 : decode cX5_suits 37 = .ok (.if_icmp .eq 23, 3) := by decide +kernel
theorem dX5_suits_40 : decode cX5_suits 40 = .ok (.aload_n 0, 1) := by decide +kernel
theorem dX5_suits_41 : decode cX5_suits 41 = .ok (.getfield 41, 3) := by decide +kernel
theorem dX5_suits_44 : decode cX5_suits 44 = .ok (.iconst 4, 1) := by decide +kernel
theorem dX5_suits_45 : decode cX5_suits 45 = .ok (.iload_n 1, 1) := by decide +kernel
theorem dX5_suits_46 : decode cX5_suits 46 = .ok (.imul, 1) := by decide +kernel
theorem dX5_suits_47 : decode cX5_suits 47 = .ok (.iload 8, 2) := by decide +kernel
theorem dX5_suits_49 : decode cX5_suits 49 = .ok (.iadd, 1) := by decide +kernel
theorem dX5_suits_50 : decode cX5_suits 50 = .ok (.iaload, 1) := by decide +kernel
theorem dX5_suits_51 : decode cX5_suits 51 = .ok (.iload 6, 2) := by decide +kernel
theorem dX5_suits_53 : decode cX5_suits 53 = .ok (.if_icmp .ne 7, 3) := by decide +kernel
theorem dX5_suits_56 : decode cX5_suits 56 = .ok (.iconst 1, 1) := by decide +kernel
theorem dX5_suits_57 : decode cX5_suits 57 = .ok (.goto 4, 3) := by decide +kernel
theorem dX5_suits_60 : decode cX5_suits 60 = .ok (.iconst 0, 1) := by decide +kernel
theorem dX5_suits_61 : decode cX5_suits 61 = .ok (.iadd, 1) := by decide +kernel
theorem dX5_suits_62 : decode cX5_suits 62 = .ok (.istore 7, 2) := by decide +kernel
theorem dX5_suits_64 : decode cX5_suits 64 = .ok (.iinc 8 1, 3) := by decide +kernel
theorem dX5_suits_67 : decode cX5_suits 67 = .ok (.goto (-48), 3) := by decide +kernel
theorem dX5_suits_70 : decode cX5_suits 70 = .ok (.iload 7, 2) := by decide +kernel
theorem dX5_suits_72 : decode cX5_suits 72 = .ok (.aload_n 0, 1) := by decide +kernel
theorem dX5_suits_73 : decode cX5_suits 73 = .ok (.getfield 50, 3) := by decide +kernel
theorem dX5_suits_76 : decode cX5_suits 76 = .ok (.iload 6, 2) := by decide +kernel
theorem dX5_suits_78 : decode cX5_suits 78 = .ok (.iaload, 1) := by decide +kernel
theorem dX5_suits_79 : decode cX5_suits 79 = .ok (.if_icmp .le 5, 3) := by decide +kernel
theorem dX5_suits_82 : decode cX5_suits 82 = .ok (.iconst 0, 1) := by decide +kernel
theorem dX5_suits_83 : decode cX5_suits 83 = .ok (.ireturn, 1) := by decide +kernel
theorem dX5_suits_84 : decode cX5_suits 84 = .ok (.iload 6, 2) := by decide +kernel
theorem dX5_suits_86 : decode cX5_suits 86 = .ok (.aload_n 0, 1) := by decide +kernel
theorem dX5_suits_87 : decode cX5_suits 87 = .ok (.getfield 35, 3) := by decide +kernel
theorem dX5_suits_90 : decode cX5_suits 90 = .ok (.iload_n 1, 1) := by decide +kernel
theorem dX5_suits_91 : decode cX5_suits 91 = .ok (.iaload, 1) := by decide +kernel
theorem dX5_suits_92 : decode cX5_suits 92 = .ok (.if_icmp .ne 16, 3) := by decide +kernel
theorem dX5_suits_95 : decode cX5_suits 95 = .ok (.aload_n 0, 1) := by decide +kernel
theorem dX5_suits_96 : decode cX5_suits 96 = .ok (.getfield 50, 3) := by decide +kernel
theorem dX5_suits_99 : decode cX5_suits 99 = .ok (.iload 6, 2) := by decide +kernel
theorem dX5_suits_101 : decode cX5_suits 101 = .ok (.iaload, 1) := by decide +kernel
theorem dX5_suits_102 : decode cX5_suits 102 = .ok (.iload 7, 2) := by decide +kernel
theorem dX5_suits_104 : decode cX5_suits 104 = .ok (.isub, 1) := by decide +kernel
theorem dX5_suits_105 : decode cX5_suits 105 = .ok (.goto 5, 3) := by decide +kernel
theorem dX5_suits_108 : decode cX5_suits 108 = .ok (.iload 5, 2) := by decide +kernel
theorem dX5_suits_110 : decode cX5_suits 110 = .ok (.istore 5, 2) := by decide +kernel
theorem dX5_suits_112 : decode cX5_suits 112 = .ok (.iinc 6 1, 3) := by decide +kernel
theorem dX5_suits_115 : decode cX5_suits 115 = .ok (.goto (-109), 3) := by decide +kernel
theorem dX5_suits_118 : decode cX5_suits 118 = .ok (.iload 5, 2) := by decide +kernel
theorem dX5_suits_120 : decode cX5_suits 120 = .ok (.ifCond .ne 7, 3) := by decide +kernel
theorem dX5_suits_123 : decode cX5_suits 123 = .ok (.iconst 1, 1) := by decide +kernel
theorem dX5_suits_124 : decode cX5_suits 124 = .ok (.goto 4, 3) := by decide +kernel
theorem dX5_suits_127 : decode cX5_suits 127 = .ok (.iconst 0, 1) := by decide +kernel
theorem dX5_suits_128 : decode cX5_suits 128 = .ok (.ireturn, 1) := by decide +kernel
theorem dX5_isWay_0 : decode cX5_isWay 0 = .ok (.aload_n 0, 1) := by decide +kernel
theorem dX5_isWay_1 : decode cX5_isWay 1 = .ok (.getfield 16, 3) := by decide +kernel
theorem dX5_isWay_4 : decode cX5_isWay 4 = .ok (.aload_n 0, 1) := by decide +kernel
theorem dX5_isWay_5 : decode cX5_isWay 5 = .ok (.getfield 44, 3) := by decide +kernel
theorem dX5_isWay_8 : decode cX5_isWay 8 = .ok (.iload_n 3, 1) := by decide +kernel
theorem dX5_isWay_9 : decode cX5_isWay 9 = .ok (.iaload, 1) := by decide +kernel
theorem dX5_isWay_10 : decode cX5_isWay 10 = .ok (.iaload, 1) := by decide +kernel
theorem dX5_isWay_11 : decode cX5_isWay 11 = .ok (.istore 5, 2) := by decide +kernel
theorem dX5_isWay_13 : decode cX5_isWay 13 = .ok (.aload_n 0, 1) := by decide +kernel
theorem dX5_isWay_14 : decode cX5_isWay 14 = .ok (.getfield 16, 3) := by decide +kernel
theorem dX5_isWay_17 : decode cX5_isWay 17 = .ok (.aload_n 0, 1) := by decide +kernel
theorem dX5_isWay_18 : decode cX5_isWay 18 = .ok (.getfield 44, 3) := by decide +kernel
theorem dX5_isWay_21 : decode cX5_isWay 21 = .ok (.iload 4, 2) := by decide +kernel
theorem dX5_isWay_23 : decode cX5_isWay 23 = .ok (.iaload, 1) := by decide +kernel
theorem dX5_isWay_24 : decode cX5_isWay 24 = .ok (.iaload, 1) := by decide +kernel
theorem dX5_isWay_25 : decode cX5_isWay 25 = .ok (.istore 6, 2) := by decide +kernel
theorem dX5_isWay_27 : decode cX5_isWay 27 = .ok (.iload_n 3, 1) := by decide +kernel
theorem dX5_isWay_28 : decode cX5_isWay 28 = .ok (.iload 4, 2) := by decide +kernel
theorem dX5_isWay_30 : decode cX5_isWay 30 = .ok (.if_icmp .ne 27, 3) := by decide +kernel
theorem dX5_isWay_33 : decode cX5_isWay 33 = .ok (.iload_n 2, 1) := by decide +kernel
theorem dX5_isWay_34 : decode cX5_isWay 34 = .ok (.iconst 1, 1) := by decide +kernel
theorem dX5_isWay_35 : decode cX5_isWay 35 = .ok (.if_icmp .ne 20, 3) := by decide +kernel
theorem dX5_isWay_38 : decode cX5_isWay 38 = .ok (.iload 5, 2) := by decide +kernel
theorem dX5_isWay_40 : decode cX5_isWay 40 = .ok (.aload_n 0, 1) := by decide +kernel
theorem dX5_isWay_41 : decode cX5_isWay 41 = .ok (.getfield 41, 3) := by decide +kernel
theorem dX5_isWay_44 : decode cX5_isWay 44 = .ok (.iconst 4, 1) := by decide +kernel
theorem dX5_isWay_45 : decode cX5_isWay 45 = .ok (.iload_n 1, 1) := by decide +kernel
theorem dX5_isWay_46 : decode cX5_isWay 46 = .ok (.imul, 1) := by decide +kernel
theorem dX5_isWay_47 : decode cX5_isWay 47 = .ok (.iaload, 1) := by decide +kernel
theorem dX5_isWay_48 : decode cX5_isWay 48 = .ok (.if_icmp .ne 7, 3) := by decide +kernel
theorem dX5_isWay_51 : decode cX5_isWay 51 = .ok (.iconst 1, 1) := by decide +kernel
theorem dX5_isWay_52 : decode cX5_isWay 52 = .ok (.goto 4, 3) := by decide +kernel
theorem dX5_isWay_55 : decode cX5_isWay 55 = .ok (.iconst 0, 1) := by decide +kernel
theorem dX5_isWay_56 : decode cX5_isWay 56 = .ok (.ireturn, 1) := by decide +kernel
theorem dX5_isWay_57 : decode cX5_isWay 57 = .ok (.iload_n 2, 1) := by decide +kernel
theorem dX5_isWay_58 : decode cX5_isWay 58 = .ok (.iconst 2, 1) := by decide +kernel
theorem dX5_isWay_59 : decode cX5_isWay 59 = .ok (.if_icmp .ge 5, 3) := by decide +kernel
theorem dX5_isWay_62 : decode cX5_isWay 62 = .ok (.iconst 0, 1) := by decide +kernel
theorem dX5_isWay_63 : decode cX5_isWay 63 = .ok (.ireturn, 1) := by decide +kernel
theorem dX5_isWay_64 : decode cX5_isWay 64 = .ok (.aload_n 0, 1) := by decide +kernel
theorem dX5_isWay_65 : decode cX5_isWay 65 = .ok (.getfield 29, 3) := by decide +kernel
theorem dX5_isWay_68 : decode cX5_isWay 68 = .ok (.iload_n 1, 1) := by decide +kernel
theorem dX5_isWay_69 : decode cX5_isWay 69 = .ok (.baload, 1) := by decide +kernel
theorem dX5_isWay_70 : decode cX5_isWay 70 = .ok (.ifCond .eq 62, 3) := by decide +kernel
theorem dX5_isWay_73 : decode cX5_isWay 73 = .ok (.iload 5, 2) := by decide +kernel
theorem dX5_isWay_75 : decode cX5_isWay 75 = .ok (.aload_n 0, 1) := by decide +kernel
theorem dX5_isWay_76 : decode cX5_isWay 76 = .ok (.getfield 41, 3) := by decide +kernel
theorem dX5_isWay_79 : decode cX5_isWay 79 = .ok (.iconst 4, 1) := by decide +kernel
theorem dX5_isWay_80 : decode cX5_isWay 80 = .ok (.iload_n 1, 1) := by decide +kernel
theorem dX5_isWay_81 : decode cX5_isWay 81 = .ok (.imul, 1) := by decide +kernel
theorem dX5_isWay_82 : decode cX5_isWay 82 = .ok (.iaload, 1) := by decide +kernel
theorem dX5_isWay_83 : decode cX5_isWay 83 = .ok (.if_icmp .ne 47, 3) := by decide +kernel
theorem dX5_isWay_86 : decode cX5_isWay 86 = .ok (.iload 6, 2) := by decide +kernel
theorem dX5_isWay_88 : decode cX5_isWay 88 = .ok (.aload_n 0, 1) := by decide +kernel
theorem dX5_isWay_89 : decode cX5_isWay 89 = .ok (.getfield 41, 3) := by decide +kernel
theorem dX5_isWay_92 : decode cX5_isWay 92 = .ok (.iconst 4, 1) := by decide +kernel
theorem dX5_isWay_93 : decode cX5_isWay 93 = .ok (.iload_n 1, 1) := by decide +kernel
theorem dX5_isWay_94 : decode cX5_isWay 94 = .ok (.imul, 1) := by decide +kernel
theorem dX5_isWay_95 : decode cX5_isWay 95 = .ok (.iload_n 2, 1) := by decide +kernel
theorem dX5_isWay_96 : decode cX5_isWay 96 = .ok (.iadd, 1) := by decide +kernel
theorem dX5_isWay_97 : decode cX5_isWay 97 = .ok (.iconst 1, 1) := by decide +kernel
theorem dX5_isWay_98 : decode cX5_isWay 98 = .ok (.isub, 1) := by decide +kernel
theorem dX5_isWay_99 : decode cX5_isWay 99 = .ok (.iaload, 1) := by decide +kernel
theorem dX5_isWay_100 : decode cX5_isWay 100 = .ok (.if_icmp .ne 30, 3) := by decide +kernel
theorem dX5_isWay_103 : decode cX5_isWay 103 = .ok (.aload_n 0, 1) := by decide +kernel
theorem dX5_isWay_104 : decode cX5_isWay 104 = .ok (.getfield 140, 3) := by decide +kernel
theorem dX5_isWay_107 : decode cX5_isWay 107 = .ok (.iload_n 2, 1) := by decide +kernel
theorem dX5_isWay_108 : decode cX5_isWay 108 = .ok (.iconst 2, 1) := by decide +kernel
theorem dX5_isWay_109 : decode cX5_isWay 109 = .ok (.isub, 1) := by decide +kernel
theorem dX5_isWay_110 : decode cX5_isWay 110 = .ok (.if_icmp .ne 20, 3) := by decide +kernel
theorem dX5_isWay_113 : decode cX5_isWay 113 = .ok (.aload_n 0, 1) := by decide +kernel
theorem dX5_isWay_114 : decode cX5_isWay 114 = .ok (.iload_n 1, 1) := by decide +kernel
theorem dX5_isWay_115 : decode cX5_isWay 115 = .ok (.iload_n 2, 1) := by decide +kernel
theorem dX5_isWay_116 : decode cX5_isWay 116 = .ok (.iconst 0, 1) := by decide +kernel
theorem dX5_isWay_117 : decode cX5_isWay 117 = .ok (.iload_n 2, 1) := by decide +kernel
theorem dX5_isWay_118 : decode cX5_isWay 118 = .ok (.iconst 1, 1) := by decide +kernel
theorem dX5_isWay_119 : decode cX5_isWay 119 = .ok (.isub, 1) := by decide +kernel
theorem dX5_isWay_120 : decode cX5_isWay 120 = .ok (.invokevirtual 143, 3) := by decide +kernel
theorem dX5_isWay_123 : decode cX5_isWay 123 = .ok (.ifCond .eq 7, 3) := by decide +kernel
theorem dX5_isWay_126 : decode cX5_isWay 126 = .ok (.iconst 1, 1) := by decide +kernel
theorem dX5_isWay_127 : decode cX5_isWay 127 = .ok (.goto 4, 3) := by decide +kernel
theorem dX5_isWay_130 : decode cX5_isWay 130 = .ok (.iconst 0, 1) := by decide +kernel
theorem dX5_isWay_131 : decode cX5_isWay 131 = .ok (.ireturn, 1) := by decide +kernel
theorem dX5_isWay_132 : decode cX5_isWay 132 = .ok (.iconst 0, 1) := by decide +kernel
theorem dX5_isWay_133 : decode cX5_isWay 133 = .ok (.istore 7, 2) := by decide +kernel
theorem dX5_isWay_135 : decode cX5_isWay 135 = .ok (.iconst 0, 1) := by decide +kernel
theorem dX5_isWay_136 : decode cX5_isWay 136 = .ok (.istore 8, 2) := by decide +kernel
theorem dX5_isWay_138 : decode cX5_isWay 138 = .ok (.iload 8, 2) := by decide +kernel
theorem dX5_isWay_140 : decode cX5_isWay 140 = .ok (.iload_n 2, 1) := by decide +kernel
theorem dX5_isWay_141 : decode cX5_isWay 141 = .ok (.if_icmp .ge 93, 3) := by decide +kernel
theorem dX5_isWay_144 : decode cX5_isWay 144 = .ok (.iload 7, 2) := by decide +kernel
theorem dX5_isWay_146 : decode cX5_isWay 146 = .ok (.ifCond .ne 88, 3) := by decide +kernel
theorem dX5_isWay_149 : decode cX5_isWay 149 = .ok (.iconst 0, 1) := by decide +kernel
theorem dX5_isWay_150 : decode cX5_isWay 150 = .ok (.istore 9, 2) := by decide +kernel
theorem dX5_isWay_152 : decode cX5_isWay 152 = .ok (.iload 9, 2) := by decide +kernel
theorem dX5_isWay_154 : decode cX5_isWay 154 = .ok (.iload_n 2, 1) := by decide +kernel
theorem dX5_isWay_155 : decode cX5_isWay 155 = .ok (.if_icmp .ge 73, 3) := by decide +kernel
theorem dX5_isWay_158 : decode cX5_isWay 158 = .ok (.iload 7, 2) := by decide +kernel
theorem dX5_isWay_160 : decode cX5_isWay 160 = .ok (.ifCond .ne 68, 3) := by decide +kernel
theorem dX5_isWay_163 : decode cX5_isWay 163 = .ok (.iload 8, 2) := by decide +kernel
theorem dX5_isWay_165 : decode cX5_isWay 165 = .ok (.iload 9, 2) := by decide +kernel
theorem dX5_isWay_167 : decode cX5_isWay 167 = .ok (.if_icmp .eq 52, 3) := by decide +kernel
theorem dX5_isWay_170 : decode cX5_isWay 170 = .ok (.aload_n 0, 1) := by decide +kernel
theorem dX5_isWay_171 : decode cX5_isWay 171 = .ok (.getfield 41, 3) := by decide +kernel
theorem dX5_isWay_174 : decode cX5_isWay 174 = .ok (.iconst 4, 1) := by decide +kernel
theorem dX5_isWay_175 : decode cX5_isWay 175 = .ok (.iload_n 1, 1) := by decide +kernel
theorem dX5_isWay_176 : decode cX5_isWay 176 = .ok (.imul, 1) := by decide +kernel
theorem dX5_isWay_177 : decode cX5_isWay 177 = .ok (.iload 8, 2) := by decide +kernel
theorem dX5_isWay_179 : decode cX5_isWay 179 = .ok (.iadd, 1) := by decide +kernel
theorem dX5_isWay_180 : decode cX5_isWay 180 = .ok (.iaload, 1) := by decide +kernel
theorem dX5_isWay_181 : decode cX5_isWay 181 = .ok (.iload 5, 2) := by decide +kernel
theorem dX5_isWay_183 : decode cX5_isWay 183 = .ok (.if_icmp .ne 36, 3) := by decide +kernel
theorem dX5_isWay_186 : decode cX5_isWay 186 = .ok (.aload_n 0, 1) := by decide +kernel
theorem dX5_isWay_187 : decode cX5_isWay 187 = .ok (.getfield 41, 3) := by decide +kernel
theorem dX5_isWay_190 : decode cX5_isWay 190 = .ok (.iconst 4, 1) := by decide +kernel
theorem dX5_isWay_191 : decode cX5_isWay 191 = .ok (.iload_n 1, 1) := by decide +kernel
theorem dX5_isWay_192 : decode cX5_isWay 192 = .ok (.imul, 1) := by decide +kernel
theorem dX5_isWay_193 : decode cX5_isWay 193 = .ok (.iload 9, 2) := by decide +kernel
theorem dX5_isWay_195 : decode cX5_isWay 195 = .ok (.iadd, 1) := by decide +kernel
theorem dX5_isWay_196 : decode cX5_isWay 196 = .ok (.iaload, 1) := by decide +kernel
theorem dX5_isWay_197 : decode cX5_isWay 197 = .ok (.iload 6, 2) := by decide +kernel
theorem dX5_isWay_199 : decode cX5_isWay 199 = .ok (.if_icmp .ne 20, 3) := by decide +kernel
theorem dX5_isWay_202 : decode cX5_isWay 202 = .ok (.aload_n 0, 1) := by decide +kernel
theorem dX5_isWay_203 : decode cX5_isWay 203 = .ok (.iload_n 1, 1) := by decide +kernel
theorem dX5_isWay_204 : decode cX5_isWay 204 = .ok (.iload_n 2, 1) := by decide +kernel
theorem dX5_isWay_205 : decode cX5_isWay 205 = .ok (.iload 8, 2) := by decide +kernel
theorem dX5_isWay_207 : decode cX5_isWay 207 = .ok (.iload 9, 2) := by decide +kernel
theorem dX5_isWay_209 : decode cX5_isWay 209 = .ok (.invokevirtual 143, 3) := by decide +kernel
theorem dX5_isWay_212 : decode cX5_isWay 212 = .ok (.ifCond .eq 7, 3) := by decide +kernel
theorem dX5_isWay_215 : decode cX5_isWay 215 = .ok (.iconst 1, 1) := by decide +kernel
theorem dX5_isWay_216 : decode cX5_isWay 216 = .ok (.goto 4, 3) := by decide +kernel
theorem dX5_isWay_219 : decode cX5_isWay 219 = .ok (.iconst 0, 1) := by decide +kernel
theorem dX5_isWay_220 : decode cX5_isWay 220 = .ok (.istore 7, 2) := by decide +kernel
theorem dX5_isWay_222 : decode cX5_isWay 222 = .ok (.iinc 9 1, 3) := by decide +kernel
theorem dX5_isWay_225 : decode cX5_isWay 225 = .ok (.goto (-73), 3) := by decide +kernel
theorem dX5_isWay_228 : decode cX5_isWay 228 = .ok (.iinc 8 1, 3) := by decide +kernel
theorem dX5_isWay_231 : decode cX5_isWay 231 = .ok (.goto (-93), 3) := by decide +kernel
theorem dX5_isWay_234 : decode cX5_isWay 234 = .ok (.iload 7, 2) := by decide +kernel
theorem dX5_isWay_236 : decode cX5_isWay 236 = .ok (.ireturn, 1) := by decide +kernel
theorem dX5_endOf_0 : decode cX5_endOf 0 = .ok (.iconst 0, 1) := by decide +kernel
theorem dX5_endOf_1 : decode cX5_endOf 1 = .ok (.istore 4, 2) := by decide +kernel
theorem dX5_endOf_3 : decode cX5_endOf 3 = .ok (.iload 4, 2) := by decide +kernel
theorem dX5_endOf_5 : decode cX5_endOf 5 = .ok (.bipush 8, 2) := by decide +kernel
theorem dX5_endOf_7 : decode cX5_endOf 7 = .ok (.if_icmp .ge 17, 3) := by decide +kernel
theorem dX5_endOf_10 : decode cX5_endOf 10 = .ok (.aload_n 0, 1) := by decide +kernel
theorem dX5_endOf_11 : decode cX5_endOf 11 = .ok (.getfield 50, 3) := by decide +kernel
theorem dX5_endOf_14 : decode cX5_endOf 14 = .ok (.iload 4, 2) := by decide +kernel
theorem dX5_endOf_16 : decode cX5_endOf 16 = .ok (.iconst 0, 1) := by decide +kernel
theorem dX5_endOf_17 : decode cX5_endOf 17 = .ok (.iastore, 1) := by decide +kernel
theorem dX5_endOf_18 : decode cX5_endOf 18 = .ok (.iinc 4 1, 3) := by decide +kernel
theorem dX5_endOf_21 : decode cX5_endOf 21 = .ok (.goto (-18), 3) := by decide +kernel
theorem dX5_endOf_24 : decode cX5_endOf 24 = .ok (.aload_n 0, 1) := by decide +kernel
theorem dX5_endOf_25 : decode cX5_endOf 25 = .ok (.iconst 0, 1) := by decide +kernel
theorem dX5_endOf_26 : decode cX5_endOf 26 = .ok (.putfield 140, 3) := by decide +kernel
theorem dX5_endOf_29 : decode cX5_endOf 29 = .ok (.iload_n 3, 1) := by decide +kernel
theorem dX5_endOf_30 : decode cX5_endOf 30 = .ok (.istore 4, 2) := by decide +kernel
theorem dX5_endOf_32 : decode cX5_endOf 32 = .ok (.iload 4, 2) := by decide +kernel
theorem dX5_endOf_34 : decode cX5_endOf 34 = .ok (.aload_n 0, 1) := by decide +kernel
theorem dX5_endOf_35 : decode cX5_endOf 35 = .ok (.getfield 86, 3) := by decide +kernel
theorem dX5_endOf_38 : decode cX5_endOf 38 = .ok (.if_icmp .ge 136, 3) := by decide +kernel
theorem dX5_endOf_41 : decode cX5_endOf 41 = .ok (.aload_n 0, 1) := by decide +kernel
theorem dX5_endOf_42 : decode cX5_endOf 42 = .ok (.getfield 7, 3) := by decide +kernel
theorem dX5_endOf_45 : decode cX5_endOf 45 = .ok (.aload_n 0, 1) := by decide +kernel
theorem dX5_endOf_46 : decode cX5_endOf 46 = .ok (.getfield 44, 3) := by decide +kernel
theorem dX5_endOf_49 : decode cX5_endOf 49 = .ok (.iload 4, 2) := by decide +kernel
theorem dX5_endOf_51 : decode cX5_endOf 51 = .ok (.iaload, 1) := by decide +kernel
theorem dX5_endOf_52 : decode cX5_endOf 52 = .ok (.iaload, 1) := by decide +kernel
theorem dX5_endOf_53 : decode cX5_endOf 53 = .ok (.aload_n 0, 1) := by decide +kernel
theorem dX5_endOf_54 : decode cX5_endOf 54 = .ok (.getfield 7, 3) := by decide +kernel
theorem dX5_endOf_57 : decode cX5_endOf 57 = .ok (.aload_n 0, 1) := by decide +kernel
theorem dX5_endOf_58 : decode cX5_endOf 58 = .ok (.getfield 44, 3) := by decide +kernel
theorem dX5_endOf_61 : decode cX5_endOf 61 = .ok (.iload_n 3, 1) := by decide +kernel
theorem dX5_endOf_62 : decode cX5_endOf 62 = .ok (.iaload, 1) := by decide +kernel
theorem dX5_endOf_63 : decode cX5_endOf 63 = .ok (.iaload, 1) := by decide +kernel
theorem dX5_endOf_64 : decode cX5_endOf 64 = .ok (.isub, 1) := by decide +kernel
theorem dX5_endOf_65 : decode cX5_endOf 65 = .ok (.aload_n 0, 1) := by decide +kernel
theorem dX5_endOf_66 : decode cX5_endOf 66 = .ok (.getfield 32, 3) := by decide +kernel
theorem dX5_endOf_69 : decode cX5_endOf 69 = .ok (.iload_n 1, 1) := by decide +kernel
theorem dX5_endOf_70 : decode cX5_endOf 70 = .ok (.iaload, 1) := by decide +kernel
theorem dX5_endOf_71 : decode cX5_endOf 71 = .ok (.if_icmp .gt 103, 3) := by decide +kernel
theorem dX5_endOf_74 : decode cX5_endOf 74 = .ok (.iload 4, 2) := by decide +kernel
theorem dX5_endOf_76 : decode cX5_endOf 76 = .ok (.iload_n 3, 1) := by decide +kernel
theorem dX5_endOf_77 : decode cX5_endOf 77 = .ok (.iconst 1, 1) := by decide +kernel
theorem dX5_endOf_78 : decode cX5_endOf 78 = .ok (.iadd, 1) := by decide +kernel
theorem dX5_endOf_79 : decode cX5_endOf 79 = .ok (.if_icmp .le 74, 3) := by decide +kernel
theorem dX5_endOf_82 : decode cX5_endOf 82 = .ok (.aload_n 0, 1) := by decide +kernel
theorem dX5_endOf_83 : decode cX5_endOf 83 = .ok (.getfield 16, 3) := by decide +kernel
theorem dX5_endOf_86 : decode cX5_endOf 86 = .ok (.aload_n 0, 1) := by decide +kernel
theorem dX5_endOf_87 : decode cX5_endOf 87 = .ok (.getfield 44, 3) := by decide +kernel
theorem dX5_endOf_90 : decode cX5_endOf 90 = .ok (.iload 4, 2) := by decide +kernel
theorem dX5_endOf_92 : decode cX5_endOf 92 = .ok (.iconst 1, 1) := by decide +kernel
theorem dX5_endOf_93 : decode cX5_endOf 93 = .ok (.isub, 1) := by decide +kernel
theorem dX5_endOf_94 : decode cX5_endOf 94 = .ok (.iaload, 1) := by decide +kernel
theorem dX5_endOf_95 : decode cX5_endOf 95 = .ok (.iaload, 1) := by decide +kernel
theorem dX5_endOf_96 : decode cX5_endOf 96 = .ok (.istore 5, 2) := by decide +kernel
theorem dX5_endOf_98 : decode cX5_endOf 98 = .ok (.aload_n 0, 1) := by decide +kernel
theorem dX5_endOf_99 : decode cX5_endOf 99 = .ok (.getfield 50, 3) := by decide +kernel
theorem dX5_endOf_102 : decode cX5_endOf 102 = .ok (.iload 5, 2) := by decide +kernel
theorem dX5_endOf_104 : decode cX5_endOf 104 = .ok (.dup2, 1) := by decide +kernel
theorem dX5_endOf_105 : decode cX5_endOf 105 = .ok (.iaload, 1) := by decide +kernel
theorem dX5_endOf_106 : decode cX5_endOf 106 = .ok (.iconst 1, 1) := by decide +kernel
theorem dX5_endOf_107 : decode cX5_endOf 107 = .ok (.iadd, 1) := by decide +kernel
theorem dX5_endOf_108 : decode cX5_endOf 108 = .ok (.iastore, 1) := by decide +kernel
theorem dX5_endOf_109 : decode cX5_endOf 109 = .ok (.aload_n 0, 1) := by decide +kernel
theorem dX5_endOf_110 : decode cX5_endOf 110 = .ok (.dup, 1) := by decide +kernel
theorem dX5_endOf_111 : decode cX5_endOf 111 = .ok (.getfield 140, 3) := by decide +kernel
theorem dX5_endOf_114 : decode cX5_endOf 114 = .ok (.aload_n 0, 1) := by decide +kernel
theorem dX5_endOf_115 : decode cX5_endOf 115 = .ok (.getfield 140, 3) := by decide +kernel
theorem dX5_endOf_118 : decode cX5_endOf 118 = .ok (.iload_n 2, 1) := by decide +kernel
theorem dX5_endOf_119 : decode cX5_endOf 119 = .ok (.iconst 2, 1) := by decide +kernel
theorem dX5_endOf_120 : decode cX5_endOf 120 = .ok (.isub, 1) := by decide +kernel
theorem dX5_endOf_121 : decode cX5_endOf 121 = .ok (.if_icmp .ge 27, 3) := by decide +kernel
theorem dX5_endOf_124 : decode cX5_endOf 124 = .ok (.iload 5, 2) := by decide +kernel
theorem dX5_endOf_126 : decode cX5_endOf 126 = .ok (.aload_n 0, 1) := by decide +kernel
theorem dX5_endOf_127 : decode cX5_endOf 127 = .ok (.getfield 41, 3) := by decide +kernel
theorem dX5_endOf_130 : decode cX5_endOf 130 = .ok (.iconst 4, 1) := by decide +kernel
theorem dX5_endOf_131 : decode cX5_endOf 131 = .ok (.iload_n 1, 1) := by decide +kernel
theorem dX5_endOf_132 : decode cX5_endOf 132 = .ok (.imul, 1) := by decide +kernel
theorem dX5_endOf_133 : decode cX5_endOf 133 = .ok (.iconst 1, 1) := by decide +kernel
theorem dX5_endOf_134 : decode cX5_endOf 134 = .ok (.iadd, 1) := by decide +kernel
theorem dX5_endOf_135 : decode cX5_endOf 135 = .ok (.aload_n 0, 1) := by decide +kernel
theorem dX5_endOf_136 : decode cX5_endOf 136 = .ok (.getfield 140, 3) := by decide +kernel
theorem dX5_endOf_139 : decode cX5_endOf 139 = .ok (.iadd, 1) := by decide +kernel
theorem dX5_endOf_140 : decode cX5_endOf 140 = .ok (.iaload, 1) := by decide +kernel
theorem dX5_endOf_141 : decode cX5_endOf 141 = .ok (.if_icmp .ne 7, 3) := by decide +kernel
theorem dX5_endOf_144 : decode cX5_endOf 144 = .ok (.iconst 1, 1) := by decide +kernel
theorem dX5_endOf_145 : decode cX5_endOf 145 = .ok (.goto 4, 3) := by decide +kernel
theorem dX5_endOf_148 : decode cX5_endOf 148 = .ok (.iconst 0, 1) := by decide +kernel
theorem dX5_endOf_149 : decode cX5_endOf 149 = .ok (.iadd, 1) := by decide +kernel
theorem dX5_endOf_150 : decode cX5_endOf 150 = .ok (.putfield 140, 3) := by decide +kernel
theorem dX5_endOf_153 : decode cX5_endOf 153 = .ok (.aload_n 0, 1) := by decide +kernel
theorem dX5_endOf_154 : decode cX5_endOf 154 = .ok (.iload_n 1, 1) := by decide +kernel
theorem dX5_endOf_155 : decode cX5_endOf 155 = .ok (.iload_n 2, 1) := by decide +kernel
theorem dX5_endOf_156 : decode cX5_endOf 156 = .ok (.iload_n 3, 1) := by decide +kernel
theorem dX5_endOf_157 : decode cX5_endOf 157 = .ok (.iload 4, 2) := by decide +kernel
theorem dX5_endOf_159 : decode cX5_endOf 159 = .ok (.invokevirtual 147, 3) := by decide +kernel
theorem dX5_endOf_162 : decode cX5_endOf 162 = .ok (.ifCond .eq 6, 3) := by decide +kernel
theorem dX5_endOf_165 : decode cX5_endOf 165 = .ok (.iload 4, 2) := by decide +kernel
theorem dX5_endOf_167 : decode cX5_endOf 167 = .ok (.ireturn, 1) := by decide +kernel
theorem dX5_endOf_168 : decode cX5_endOf 168 = .ok (.iinc 4 1, 3) := by decide +kernel
theorem dX5_endOf_171 : decode cX5_endOf 171 = .ok (.goto (-139), 3) := by decide +kernel
theorem dX5_endOf_174 : decode cX5_endOf 174 = .ok (.iconst (-1), 1) := by decide +kernel
theorem dX5_endOf_175 : decode cX5_endOf 175 = .ok (.ireturn, 1) := by decide +kernel
theorem dX5_findWays_0 : decode cX5_findWays 0 = .ok (.aload_n 0, 1) := by decide +kernel
theorem dX5_findWays_1 : decode cX5_findWays 1 = .ok (.iconst 0, 1) := by decide +kernel
theorem dX5_findWays_2 : decode cX5_findWays 2 = .ok (.putfield 150, 3) := by decide +kernel
theorem dX5_findWays_5 : decode cX5_findWays 5 = .ok (.aload_n 0, 1) := by decide +kernel
theorem dX5_findWays_6 : decode cX5_findWays 6 = .ok (.getfield 38, 3) := by decide +kernel
theorem dX5_findWays_9 : decode cX5_findWays 9 = .ok (.iload_n 1, 1) := by decide +kernel
theorem dX5_findWays_10 : decode cX5_findWays 10 = .ok (.iaload, 1) := by decide +kernel
theorem dX5_findWays_11 : decode cX5_findWays 11 = .ok (.istore_n 2, 1) := by decide +kernel
theorem dX5_findWays_12 : decode cX5_findWays 12 = .ok (.iconst 0, 1) := by decide +kernel
theorem dX5_findWays_13 : decode cX5_findWays 13 = .ok (.istore_n 3, 1) := by decide +kernel
theorem dX5_findWays_14 : decode cX5_findWays 14 = .ok (.iload_n 3, 1) := by decide +kernel
theorem dX5_findWays_15 : decode cX5_findWays 15 = .ok (.aload_n 0, 1) := by decide +kernel
theorem dX5_findWays_16 : decode cX5_findWays 16 = .ok (.getfield 86, 3) := by decide +kernel
theorem dX5_findWays_19 : decode cX5_findWays 19 = .ok (.if_icmp .ge 123, 3) := by decide +kernel
theorem dX5_findWays_22 : decode cX5_findWays 22 = .ok (.iload_n 2, 1) := by decide +kernel
theorem dX5_findWays_23 : decode cX5_findWays 23 = .ok (.ifCond .le 119, 3) := by decide +kernel
theorem dX5_findWays_26 : decode cX5_findWays 26 = .ok (.aload_n 0, 1) := by decide +kernel
theorem dX5_findWays_27 : decode cX5_findWays 27 = .ok (.getfield 150, 3) := by decide +kernel
theorem dX5_findWays_30 : decode cX5_findWays 30 = .ok (.ifCond .eq 45, 3) := by decide +kernel
theorem dX5_findWays_33 : decode cX5_findWays 33 = .ok (.aload_n 0, 1) := by decide +kernel
theorem dX5_findWays_34 : decode cX5_findWays 34 = .ok (.getfield 7, 3) := by decide +kernel
theorem dX5_findWays_37 : decode cX5_findWays 37 = .ok (.aload_n 0, 1) := by decide +kernel
theorem dX5_findWays_38 : decode cX5_findWays 38 = .ok (.getfield 44, 3) := by decide +kernel
theorem dX5_findWays_41 : decode cX5_findWays 41 = .ok (.iload_n 3, 1) := by decide +kernel
theorem dX5_findWays_42 : decode cX5_findWays 42 = .ok (.iaload, 1) := by decide +kernel
theorem dX5_findWays_43 : decode cX5_findWays 43 = .ok (.iaload, 1) := by decide +kernel
theorem dX5_findWays_44 : decode cX5_findWays 44 = .ok (.aload_n 0, 1) := by decide +kernel
theorem dX5_findWays_45 : decode cX5_findWays 45 = .ok (.getfield 7, 3) := by decide +kernel
theorem dX5_findWays_48 : decode cX5_findWays 48 = .ok (.aload_n 0, 1) := by decide +kernel
theorem dX5_findWays_49 : decode cX5_findWays 49 = .ok (.getfield 44, 3) := by decide +kernel
theorem dX5_findWays_52 : decode cX5_findWays 52 = .ok (.aload_n 0, 1) := by decide +kernel
theorem dX5_findWays_53 : decode cX5_findWays 53 = .ok (.getfield 53, 3) := by decide +kernel
theorem dX5_findWays_56 : decode cX5_findWays 56 = .ok (.aload_n 0, 1) := by decide +kernel
theorem dX5_findWays_57 : decode cX5_findWays 57 = .ok (.getfield 150, 3) := by decide +kernel
theorem dX5_findWays_60 : decode cX5_findWays 60 = .ok (.iconst 1, 1) := by decide +kernel
theorem dX5_findWays_61 : decode cX5_findWays 61 = .ok (.isub, 1) := by decide +kernel
theorem dX5_findWays_62 : decode cX5_findWays 62 = .ok (.iaload, 1) := by decide +kernel
theorem dX5_findWays_63 : decode cX5_findWays 63 = .ok (.iaload, 1) := by decide +kernel
theorem dX5_findWays_64 : decode cX5_findWays 64 = .ok (.iaload, 1) := by decide +kernel
theorem dX5_findWays_65 : decode cX5_findWays 65 = .ok (.isub, 1) := by decide +kernel
theorem dX5_findWays_66 : decode cX5_findWays 66 = .ok (.aload_n 0, 1) := by decide +kernel
theorem dX5_findWays_67 : decode cX5_findWays 67 = .ok (.getfield 32, 3) := by decide +kernel
theorem dX5_findWays_70 : decode cX5_findWays 70 = .ok (.iload_n 1, 1) := by decide +kernel
theorem dX5_findWays_71 : decode cX5_findWays 71 = .ok (.iaload, 1) := by decide +kernel
theorem dX5_findWays_72 : decode cX5_findWays 72 = .ok (.if_icmp .le 7, 3) := by decide +kernel
theorem dX5_findWays_75 : decode cX5_findWays 75 = .ok (.iconst 1, 1) := by decide +kernel
theorem dX5_findWays_76 : decode cX5_findWays 76 = .ok (.goto 4, 3) := by decide +kernel
theorem dX5_findWays_79 : decode cX5_findWays 79 = .ok (.iconst 0, 1) := by decide +kernel
theorem dX5_findWays_80 : decode cX5_findWays 80 = .ok (.istore 4, 2) := by decide +kernel
theorem dX5_findWays_82 : decode cX5_findWays 82 = .ok (.iload 4, 2) := by decide +kernel
theorem dX5_findWays_84 : decode cX5_findWays 84 = .ok (.ifCond .eq 13, 3) := by decide +kernel
theorem dX5_findWays_87 : decode cX5_findWays 87 = .ok (.aload_n 0, 1) := by decide +kernel
theorem dX5_findWays_88 : decode cX5_findWays 88 = .ok (.iload_n 1, 1) := by decide +kernel
theorem dX5_findWays_89 : decode cX5_findWays 89 = .ok (.iload_n 2, 1) := by decide +kernel
theorem dX5_findWays_90 : decode cX5_findWays 90 = .ok (.iload_n 3, 1) := by decide +kernel
theorem dX5_findWays_91 : decode cX5_findWays 91 = .ok (.invokevirtual 153, 3) := by decide +kernel
theorem dX5_findWays_94 : decode cX5_findWays 94 = .ok (.goto 4, 3) := by decide +kernel
theorem dX5_findWays_97 : decode cX5_findWays 97 = .ok (.iconst (-1), 1) := by decide +kernel
theorem dX5_findWays_98 : decode cX5_findWays 98 = .ok (.istore 5, 2) := by decide +kernel
theorem dX5_findWays_100 : decode cX5_findWays 100 = .ok (.iload 5, 2) := by decide +kernel
theorem dX5_findWays_102 : decode cX5_findWays 102 = .ok (.ifCond .lt 34, 3) := by decide +kernel
theorem dX5_findWays_105 : decode cX5_findWays 105 = .ok (.aload_n 0, 1) := by decide +kernel
theorem dX5_findWays_106 : decode cX5_findWays 106 = .ok (.getfield 53, 3) := by decide +kernel
theorem dX5_findWays_109 : decode cX5_findWays 109 = .ok (.aload_n 0, 1) := by decide +kernel
theorem dX5_findWays_110 : decode cX5_findWays 110 = .ok (.getfield 150, 3) := by decide +kernel
theorem dX5_findWays_113 : decode cX5_findWays 113 = .ok (.iload_n 3, 1) := by decide +kernel
theorem dX5_findWays_114 : decode cX5_findWays 114 = .ok (.iastore, 1) := by decide +kernel
theorem dX5_findWays_115 : decode cX5_findWays 115 = .ok (.aload_n 0, 1) := by decide +kernel
theorem dX5_findWays_116 : decode cX5_findWays 116 = .ok (.getfield 56, 3) := by decide +kernel
theorem dX5_findWays_119 : decode cX5_findWays 119 = .ok (.aload_n 0, 1) := by decide +kernel
theorem dX5_findWays_120 : decode cX5_findWays 120 = .ok (.getfield 150, 3) := by decide +kernel
theorem dX5_findWays_123 : decode cX5_findWays 123 = .ok (.iload 5, 2) := by decide +kernel
theorem dX5_findWays_125 : decode cX5_findWays 125 = .ok (.iastore, 1) := by decide +kernel
theorem dX5_findWays_126 : decode cX5_findWays 126 = .ok (.aload_n 0, 1) := by decide +kernel
theorem dX5_findWays_127 : decode cX5_findWays 127 = .ok (.dup, 1) := by decide +kernel
theorem dX5_findWays_128 : decode cX5_findWays 128 = .ok (.getfield 150, 3) := by decide +kernel
theorem dX5_findWays_131 : decode cX5_findWays 131 = .ok (.iconst 1, 1) := by decide +kernel
theorem dX5_findWays_132 : decode cX5_findWays 132 = .ok (.iadd, 1) := by decide +kernel
theorem dX5_findWays_133 : decode cX5_findWays 133 = .ok (.putfield 150, 3) := by decide +kernel
theorem dX5_findWays_136 : decode cX5_findWays 136 = .ok (.iinc 3 1, 3) := by decide +kernel
theorem dX5_findWays_139 : decode cX5_findWays 139 = .ok (.goto (-125), 3) := by decide +kernel
theorem dX5_findWays_142 : decode cX5_findWays 142 = .ok (.return_, 1) := by decide +kernel
theorem dX5_ways_0 : decode cX5_ways 0 = .ok (.aload_n 0, 1) := by decide +kernel
theorem dX5_ways_1 : decode cX5_ways 1 = .ok (.iload_n 1, 1) := by decide +kernel
theorem dX5_ways_2 : decode cX5_ways 2 = .ok (.invokevirtual 137, 3) := by decide +kernel
theorem dX5_ways_5 : decode cX5_ways 5 = .ok (.ifCond .eq 15, 3) := by decide +kernel
theorem dX5_ways_8 : decode cX5_ways 8 = .ok (.iload_n 2, 1) := by decide +kernel
theorem dX5_ways_9 : decode cX5_ways 9 = .ok (.iconst (-1), 1) := by decide +kernel
theorem dX5_ways_10 : decode cX5_ways 10 = .ok (.if_icmp .eq 14, 3) := by decide +kernel
theorem dX5_ways_13 : decode cX5_ways 13 = .ok (.iload_n 2, 1) := by decide +kernel
theorem dX5_ways_14 : decode cX5_ways 14 = .ok (.invokestatic 69, 3) := by decide +kernel
theorem dX5_ways_17 : decode cX5_ways 17 = .ok (.ifCond .ne 7, 3) := by decide +kernel
theorem dX5_ways_20 : decode cX5_ways 20 = .ok (.sipush (-1001), 3) := by decide +kernel
theorem dX5_ways_23 : decode cX5_ways 23 = .ok (.ireturn, 1) := by decide +kernel
theorem dX5_ways_24 : decode cX5_ways 24 = .ok (.iconst 0, 1) := by decide +kernel
theorem dX5_ways_25 : decode cX5_ways 25 = .ok (.istore_n 3, 1) := by decide +kernel
theorem dX5_ways_26 : decode cX5_ways 26 = .ok (.iconst 0, 1) := by decide +kernel
theorem dX5_ways_27 : decode cX5_ways 27 = .ok (.istore 4, 2) := by decide +kernel
theorem dX5_ways_29 : decode cX5_ways 29 = .ok (.iload 4, 2) := by decide +kernel
theorem dX5_ways_31 : decode cX5_ways 31 = .ok (.bipush 24, 2) := by decide +kernel
theorem dX5_ways_33 : decode cX5_ways 33 = .ok (.if_icmp .ge 72, 3) := by decide +kernel
theorem dX5_ways_36 : decode cX5_ways 36 = .ok (.iload_n 2, 1) := by decide +kernel
theorem dX5_ways_37 : decode cX5_ways 37 = .ok (.iconst (-1), 1) := by decide +kernel
theorem dX5_ways_38 : decode cX5_ways 38 = .ok (.if_icmp .ne 21, 3) := by decide +kernel
theorem dX5_ways_41 : decode cX5_ways 41 = .ok (.aload_n 0, 1) := by decide +kernel
theorem dX5_ways_42 : decode cX5_ways 42 = .ok (.getfield 23, 3) := by decide +kernel
theorem dX5_ways_45 : decode cX5_ways 45 = .ok (.iload 4, 2) := by decide +kernel
theorem dX5_ways_47 : decode cX5_ways 47 = .ok (.iaload, 1) := by decide +kernel
theorem dX5_ways_48 : decode cX5_ways 48 = .ok (.ifCond .ge 7, 3) := by decide +kernel
theorem dX5_ways_51 : decode cX5_ways 51 = .ok (.iconst 1, 1) := by decide +kernel
theorem dX5_ways_52 : decode cX5_ways 52 = .ok (.goto 22, 3) := by decide +kernel
theorem dX5_ways_55 : decode cX5_ways 55 = .ok (.iconst 0, 1) := by decide +kernel
theorem dX5_ways_56 : decode cX5_ways 56 = .ok (.goto 18, 3) := by decide +kernel
theorem dX5_ways_59 : decode cX5_ways 59 = .ok (.iload 4, 2) := by decide +kernel
theorem dX5_ways_61 : decode cX5_ways 61 = .ok (.aload_n 0, 1) := by decide +kernel
theorem dX5_ways_62 : decode cX5_ways 62 = .ok (.iload_n 2, 1) := by decide +kernel
theorem dX5_ways_63 : decode cX5_ways 63 = .ok (.invokevirtual 89, 3) := by decide +kernel
theorem dX5_ways_66 : decode cX5_ways 66 = .ok (.if_icmp .ne 7, 3) := by decide +kernel
theorem dX5_ways_69 : decode cX5_ways 69 = .ok (.iconst 1, 1) := by decide +kernel
theorem dX5_ways_70 : decode cX5_ways 70 = .ok (.goto 4, 3) := by decide +kernel
theorem dX5_ways_73 : decode cX5_ways 73 = .ok (.iconst 0, 1) := by decide +kernel
theorem dX5_ways_74 : decode cX5_ways 74 = .ok (.istore 5, 2) := by decide +kernel
theorem dX5_ways_76 : decode cX5_ways 76 = .ok (.iload 5, 2) := by decide +kernel
theorem dX5_ways_78 : decode cX5_ways 78 = .ok (.ifCond .eq 21, 3) := by decide +kernel
theorem dX5_ways_81 : decode cX5_ways 81 = .ok (.aload_n 0, 1) := by decide +kernel
theorem dX5_ways_82 : decode cX5_ways 82 = .ok (.iload 4, 2) := by decide +kernel
theorem dX5_ways_84 : decode cX5_ways 84 = .ok (.invokevirtual 109, 3) := by decide +kernel
theorem dX5_ways_87 : decode cX5_ways 87 = .ok (.aload_n 0, 1) := by decide +kernel
theorem dX5_ways_88 : decode cX5_ways 88 = .ok (.iload_n 1, 1) := by decide +kernel
theorem dX5_ways_89 : decode cX5_ways 89 = .ok (.invokevirtual 157, 3) := by decide +kernel
theorem dX5_ways_92 : decode cX5_ways 92 = .ok (.iload_n 3, 1) := by decide +kernel
theorem dX5_ways_93 : decode cX5_ways 93 = .ok (.aload_n 0, 1) := by decide +kernel
theorem dX5_ways_94 : decode cX5_ways 94 = .ok (.getfield 150, 3) := by decide +kernel
theorem dX5_ways_97 : decode cX5_ways 97 = .ok (.iadd, 1) := by decide +kernel
theorem dX5_ways_98 : decode cX5_ways 98 = .ok (.istore_n 3, 1) := by decide +kernel
theorem dX5_ways_99 : decode cX5_ways 99 = .ok (.iinc 4 1, 3) := by decide +kernel
theorem dX5_ways_102 : decode cX5_ways 102 = .ok (.goto (-73), 3) := by decide +kernel
theorem dX5_ways_105 : decode cX5_ways 105 = .ok (.iload_n 3, 1) := by decide +kernel
theorem dX5_ways_106 : decode cX5_ways 106 = .ok (.ireturn, 1) := by decide +kernel
theorem dX5_way_0 : decode cX5_way 0 = .ok (.aload_n 0, 1) := by decide +kernel
theorem dX5_way_1 : decode cX5_way 1 = .ok (.iload_n 1, 1) := by decide +kernel
theorem dX5_way_2 : decode cX5_way 2 = .ok (.invokevirtual 137, 3) := by decide +kernel
theorem dX5_way_5 : decode cX5_way 5 = .ok (.ifCond .eq 10, 3) := by decide +kernel
theorem dX5_way_8 : decode cX5_way 8 = .ok (.iload_n 2, 1) := by decide +kernel
theorem dX5_way_9 : decode cX5_way 9 = .ok (.invokestatic 69, 3) := by decide +kernel
theorem dX5_way_12 : decode cX5_way 12 = .ok (.ifCond .ne 7, 3) := by decide +kernel
theorem dX5_way_15 : decode cX5_way 15 = .ok (.sipush (-1001), 3) := by decide +kernel
theorem dX5_way_18 : decode cX5_way 18 = .ok (.ireturn, 1) := by decide +kernel
theorem dX5_way_19 : decode cX5_way 19 = .ok (.aload_n 0, 1) := by decide +kernel
theorem dX5_way_20 : decode cX5_way 20 = .ok (.aload_n 0, 1) := by decide +kernel
theorem dX5_way_21 : decode cX5_way 21 = .ok (.iload_n 2, 1) := by decide +kernel
theorem dX5_way_22 : decode cX5_way 22 = .ok (.invokevirtual 89, 3) := by decide +kernel
theorem dX5_way_25 : decode cX5_way 25 = .ok (.invokevirtual 109, 3) := by decide +kernel
theorem dX5_way_28 : decode cX5_way 28 = .ok (.aload_n 0, 1) := by decide +kernel
theorem dX5_way_29 : decode cX5_way 29 = .ok (.iload_n 1, 1) := by decide +kernel
theorem dX5_way_30 : decode cX5_way 30 = .ok (.invokevirtual 157, 3) := by decide +kernel
theorem dX5_way_33 : decode cX5_way 33 = .ok (.iload_n 3, 1) := by decide +kernel
theorem dX5_way_34 : decode cX5_way 34 = .ok (.i2l, 1) := by decide +kernel
theorem dX5_way_35 : decode cX5_way 35 = .ok (.lconst 0, 1) := by decide +kernel
theorem dX5_way_36 : decode cX5_way 36 = .ok (.aload_n 0, 1) := by decide +kernel
theorem dX5_way_37 : decode cX5_way 37 = .ok (.getfield 150, 3) := by decide +kernel
theorem dX5_way_40 : decode cX5_way 40 = .ok (.iconst 1, 1) := by decide +kernel
theorem dX5_way_41 : decode cX5_way 41 = .ok (.isub, 1) := by decide +kernel
theorem dX5_way_42 : decode cX5_way 42 = .ok (.i2l, 1) := by decide +kernel
theorem dX5_way_43 : decode cX5_way 43 = .ok (.invokestatic 61, 3) := by decide +kernel
theorem dX5_way_46 : decode cX5_way 46 = .ok (.ifCond .ne 7, 3) := by decide +kernel
theorem dX5_way_49 : decode cX5_way 49 = .ok (.sipush (-1001), 3) := by decide +kernel
theorem dX5_way_52 : decode cX5_way 52 = .ok (.ireturn, 1) := by decide +kernel
theorem dX5_way_53 : decode cX5_way 53 = .ok (.iload 4, 2) := by decide +kernel
theorem dX5_way_55 : decode cX5_way 55 = .ok (.ifCond .ne 17, 3) := by decide +kernel
theorem dX5_way_58 : decode cX5_way 58 = .ok (.aload_n 0, 1) := by decide +kernel
theorem dX5_way_59 : decode cX5_way 59 = .ok (.getfield 44, 3) := by decide +kernel
theorem dX5_way_62 : decode cX5_way 62 = .ok (.aload_n 0, 1) := by decide +kernel
theorem dX5_way_63 : decode cX5_way 63 = .ok (.getfield 53, 3) := by decide +kernel
theorem dX5_way_66 : decode cX5_way 66 = .ok (.iload_n 3, 1) := by decide +kernel
theorem dX5_way_67 : decode cX5_way 67 = .ok (.iaload, 1) := by decide +kernel
theorem dX5_way_68 : decode cX5_way 68 = .ok (.iaload, 1) := by decide +kernel
theorem dX5_way_69 : decode cX5_way 69 = .ok (.goto 26, 3) := by decide +kernel
theorem dX5_way_72 : decode cX5_way 72 = .ok (.iload 4, 2) := by decide +kernel
theorem dX5_way_74 : decode cX5_way 74 = .ok (.iconst 1, 1) := by decide +kernel
theorem dX5_way_75 : decode cX5_way 75 = .ok (.if_icmp .ne 17, 3) := by decide +kernel
theorem dX5_way_78 : decode cX5_way 78 = .ok (.aload_n 0, 1) := by decide +kernel
theorem dX5_way_79 : decode cX5_way 79 = .ok (.getfield 44, 3) := by decide +kernel
theorem dX5_way_82 : decode cX5_way 82 = .ok (.aload_n 0, 1) := by decide +kernel
theorem dX5_way_83 : decode cX5_way 83 = .ok (.getfield 56, 3) := by decide +kernel
theorem dX5_way_86 : decode cX5_way 86 = .ok (.iload_n 3, 1) := by decide +kernel
theorem dX5_way_87 : decode cX5_way 87 = .ok (.iaload, 1) := by decide +kernel
theorem dX5_way_88 : decode cX5_way 88 = .ok (.iaload, 1) := by decide +kernel
theorem dX5_way_89 : decode cX5_way 89 = .ok (.goto 6, 3) := by decide +kernel
theorem dX5_way_92 : decode cX5_way 92 = .ok (.sipush (-1002), 3) := by decide +kernel
theorem dX5_way_95 : decode cX5_way 95 = .ok (.ireturn, 1) := by decide +kernel
theorem dX5_reachOf_0 : decode cX5_reachOf 0 = .ok (.iconst 0, 1) := by decide +kernel
theorem dX5_reachOf_1 : decode cX5_reachOf 1 = .ok (.istore_n 2, 1) := by decide +kernel
theorem dX5_reachOf_2 : decode cX5_reachOf 2 = .ok (.aload_n 0, 1) := by decide +kernel
theorem dX5_reachOf_3 : decode cX5_reachOf 3 = .ok (.getfield 38, 3) := by decide +kernel
theorem dX5_reachOf_6 : decode cX5_reachOf 6 = .ok (.iload_n 1, 1) := by decide +kernel
theorem dX5_reachOf_7 : decode cX5_reachOf 7 = .ok (.iaload, 1) := by decide +kernel
theorem dX5_reachOf_8 : decode cX5_reachOf 8 = .ok (.istore_n 3, 1) := by decide +kernel
theorem dX5_reachOf_9 : decode cX5_reachOf 9 = .ok (.iload_n 3, 1) := by decide +kernel
theorem dX5_reachOf_10 : decode cX5_reachOf 10 = .ok (.ifCond .le 52, 3) := by decide +kernel
theorem dX5_reachOf_13 : decode cX5_reachOf 13 = .ok (.iload_n 2, 1) := by decide +kernel
theorem dX5_reachOf_14 : decode cX5_reachOf 14 = .ok (.ifCond .ne 48, 3) := by decide +kernel
theorem dX5_reachOf_17 : decode cX5_reachOf 17 = .ok (.iconst 0, 1) := by decide +kernel
theorem dX5_reachOf_18 : decode cX5_reachOf 18 = .ok (.istore 4, 2) := by decide +kernel
theorem dX5_reachOf_20 : decode cX5_reachOf 20 = .ok (.iload 4, 2) := by decide +kernel
theorem dX5_reachOf_22 : decode cX5_reachOf 22 = .ok (.aload_n 0, 1) := by decide +kernel
theorem dX5_reachOf_23 : decode cX5_reachOf 23 = .ok (.getfield 86, 3) := by decide +kernel
theorem dX5_reachOf_26 : decode cX5_reachOf 26 = .ok (.if_icmp .ge 30, 3) := by decide +kernel
theorem dX5_reachOf_29 : decode cX5_reachOf 29 = .ok (.iload_n 2, 1) := by decide +kernel
theorem dX5_reachOf_30 : decode cX5_reachOf 30 = .ok (.ifCond .ne 26, 3) := by decide +kernel
theorem dX5_reachOf_33 : decode cX5_reachOf 33 = .ok (.aload_n 0, 1) := by decide +kernel
theorem dX5_reachOf_34 : decode cX5_reachOf 34 = .ok (.iload_n 1, 1) := by decide +kernel
theorem dX5_reachOf_35 : decode cX5_reachOf 35 = .ok (.iload_n 3, 1) := by decide +kernel
theorem dX5_reachOf_36 : decode cX5_reachOf 36 = .ok (.iload 4, 2) := by decide +kernel
theorem dX5_reachOf_38 : decode cX5_reachOf 38 = .ok (.invokevirtual 153, 3) := by decide +kernel
theorem dX5_reachOf_41 : decode cX5_reachOf 41 = .ok (.ifCond .lt 7, 3) := by decide +kernel
theorem dX5_reachOf_44 : decode cX5_reachOf 44 = .ok (.iload_n 3, 1) := by decide +kernel
theorem dX5_reachOf_45 : decode cX5_reachOf 45 = .ok (.goto 4, 3) := by decide +kernel
theorem dX5_reachOf_48 : decode cX5_reachOf 48 = .ok (.iconst 0, 1) := by decide +kernel
theorem dX5_reachOf_49 : decode cX5_reachOf 49 = .ok (.istore_n 2, 1) := by decide +kernel
theorem dX5_reachOf_50 : decode cX5_reachOf 50 = .ok (.iinc 4 1, 3) := by decide +kernel
theorem dX5_reachOf_53 : decode cX5_reachOf 53 = .ok (.goto (-33), 3) := by decide +kernel
theorem dX5_reachOf_56 : decode cX5_reachOf 56 = .ok (.iinc 3 (-1), 3) := by decide +kernel
theorem dX5_reachOf_59 : decode cX5_reachOf 59 = .ok (.goto (-50), 3) := by decide +kernel
theorem dX5_reachOf_62 : decode cX5_reachOf 62 = .ok (.iload_n 2, 1) := by decide +kernel
theorem dX5_reachOf_63 : decode cX5_reachOf 63 = .ok (.ireturn, 1) := by decide +kernel
theorem dX5_reach_0 : decode cX5_reach 0 = .ok (.aload_n 0, 1) := by decide +kernel
theorem dX5_reach_1 : decode cX5_reach 1 = .ok (.iload_n 1, 1) := by decide +kernel
theorem dX5_reach_2 : decode cX5_reach 2 = .ok (.invokevirtual 137, 3) := by decide +kernel
theorem dX5_reach_5 : decode cX5_reach 5 = .ok (.ifCond .eq 10, 3) := by decide +kernel
theorem dX5_reach_8 : decode cX5_reach 8 = .ok (.iload_n 2, 1) := by decide +kernel
theorem dX5_reach_9 : decode cX5_reach 9 = .ok (.invokestatic 69, 3) := by decide +kernel
theorem dX5_reach_12 : decode cX5_reach 12 = .ok (.ifCond .ne 7, 3) := by decide +kernel
theorem dX5_reach_15 : decode cX5_reach 15 = .ok (.sipush (-1001), 3) := by decide +kernel
theorem dX5_reach_18 : decode cX5_reach 18 = .ok (.ireturn, 1) := by decide +kernel
theorem dX5_reach_19 : decode cX5_reach 19 = .ok (.aload_n 0, 1) := by decide +kernel
theorem dX5_reach_20 : decode cX5_reach 20 = .ok (.aload_n 0, 1) := by decide +kernel
theorem dX5_reach_21 : decode cX5_reach 21 = .ok (.iload_n 2, 1) := by decide +kernel
theorem dX5_reach_22 : decode cX5_reach 22 = .ok (.invokevirtual 89, 3) := by decide +kernel
theorem dX5_reach_25 : decode cX5_reach 25 = .ok (.invokevirtual 109, 3) := by decide +kernel
theorem dX5_reach_28 : decode cX5_reach 28 = .ok (.aload_n 0, 1) := by decide +kernel
theorem dX5_reach_29 : decode cX5_reach 29 = .ok (.iload_n 1, 1) := by decide +kernel
theorem dX5_reach_30 : decode cX5_reach 30 = .ok (.invokevirtual 160, 3) := by decide +kernel
theorem dX5_reach_33 : decode cX5_reach 33 = .ok (.ireturn, 1) := by decide +kernel
theorem dX5_reached_0 : decode cX5_reached 0 = .ok (.aload_n 0, 1) := by decide +kernel
theorem dX5_reached_1 : decode cX5_reached 1 = .ok (.iload_n 1, 1) := by decide +kernel
theorem dX5_reached_2 : decode cX5_reached 2 = .ok (.invokevirtual 137, 3) := by decide +kernel
theorem dX5_reached_5 : decode cX5_reached 5 = .ok (.ifCond .ne 7, 3) := by decide +kernel
theorem dX5_reached_8 : decode cX5_reached 8 = .ok (.sipush (-1001), 3) := by decide +kernel
theorem dX5_reached_11 : decode cX5_reached 11 = .ok (.ireturn, 1) := by decide +kernel
theorem dX5_reached_12 : decode cX5_reached 12 = .ok (.iload_n 2, 1) := by decide +kernel
theorem dX5_reached_13 : decode cX5_reached 13 = .ok (.i2l, 1) := by decide +kernel
theorem dX5_reached_14 : decode cX5_reached 14 = .ok (.lconst 0, 1) := by decide +kernel
theorem dX5_reached_15 : decode cX5_reached 15 = .ok (.ldc2_w 125, 3) := by decide +kernel
theorem dX5_reached_18 : decode cX5_reached 18 = .ok (.invokestatic 61, 3) := by decide +kernel
theorem dX5_reached_21 : decode cX5_reached 21 = .ok (.ifCond .ne 7, 3) := by decide +kernel
theorem dX5_reached_24 : decode cX5_reached 24 = .ok (.sipush (-1002), 3) := by decide +kernel
theorem dX5_reached_27 : decode cX5_reached 27 = .ok (.ireturn, 1) := by decide +kernel
theorem dX5_reached_28 : decode cX5_reached 28 = .ok (.iconst 0, 1) := by decide +kernel
theorem dX5_reached_29 : decode cX5_reached 29 = .ok (.istore_n 3, 1) := by decide +kernel
theorem dX5_reached_30 : decode cX5_reached 30 = .ok (.iconst 0, 1) := by decide +kernel
theorem dX5_reached_31 : decode cX5_reached 31 = .ok (.istore 4, 2) := by decide +kernel
theorem dX5_reached_33 : decode cX5_reached 33 = .ok (.iload 4, 2) := by decide +kernel
theorem dX5_reached_35 : decode cX5_reached 35 = .ok (.bipush 24, 2) := by decide +kernel
theorem dX5_reached_37 : decode cX5_reached 37 = .ok (.if_icmp .ge 49, 3) := by decide +kernel
theorem dX5_reached_40 : decode cX5_reached 40 = .ok (.aload_n 0, 1) := by decide +kernel
theorem dX5_reached_41 : decode cX5_reached 41 = .ok (.getfield 23, 3) := by decide +kernel
theorem dX5_reached_44 : decode cX5_reached 44 = .ok (.iload 4, 2) := by decide +kernel
theorem dX5_reached_46 : decode cX5_reached 46 = .ok (.iaload, 1) := by decide +kernel
theorem dX5_reached_47 : decode cX5_reached 47 = .ok (.ifCond .ge 33, 3) := by decide +kernel
theorem dX5_reached_50 : decode cX5_reached 50 = .ok (.aload_n 0, 1) := by decide +kernel
theorem dX5_reached_51 : decode cX5_reached 51 = .ok (.iload 4, 2) := by decide +kernel
theorem dX5_reached_53 : decode cX5_reached 53 = .ok (.invokevirtual 109, 3) := by decide +kernel
theorem dX5_reached_56 : decode cX5_reached 56 = .ok (.iload_n 3, 1) := by decide +kernel
theorem dX5_reached_57 : decode cX5_reached 57 = .ok (.aload_n 0, 1) := by decide +kernel
theorem dX5_reached_58 : decode cX5_reached 58 = .ok (.getfield 86, 3) := by decide +kernel
theorem dX5_reached_61 : decode cX5_reached 61 = .ok (.ifCond .le 16, 3) := by decide +kernel
theorem dX5_reached_64 : decode cX5_reached 64 = .ok (.aload_n 0, 1) := by decide +kernel
theorem dX5_reached_65 : decode cX5_reached 65 = .ok (.iload_n 1, 1) := by decide +kernel
theorem dX5_reached_66 : decode cX5_reached 66 = .ok (.invokevirtual 160, 3) := by decide +kernel
theorem dX5_reached_69 : decode cX5_reached 69 = .ok (.iload_n 2, 1) := by decide +kernel
theorem dX5_reached_70 : decode cX5_reached 70 = .ok (.if_icmp .lt 7, 3) := by decide +kernel
theorem dX5_reached_73 : decode cX5_reached 73 = .ok (.iconst 1, 1) := by decide +kernel
theorem dX5_reached_74 : decode cX5_reached 74 = .ok (.goto 4, 3) := by decide +kernel
theorem dX5_reached_77 : decode cX5_reached 77 = .ok (.iconst 0, 1) := by decide +kernel
theorem dX5_reached_78 : decode cX5_reached 78 = .ok (.iadd, 1) := by decide +kernel
theorem dX5_reached_79 : decode cX5_reached 79 = .ok (.istore_n 3, 1) := by decide +kernel
theorem dX5_reached_80 : decode cX5_reached 80 = .ok (.iinc 4 1, 3) := by decide +kernel
theorem dX5_reached_83 : decode cX5_reached 83 = .ok (.goto (-50), 3) := by decide +kernel
theorem dX5_reached_86 : decode cX5_reached 86 = .ok (.iload_n 3, 1) := by decide +kernel
theorem dX5_reached_87 : decode cX5_reached 87 = .ok (.ireturn, 1) := by decide +kernel
theorem dX5_cameIn_0 : decode cX5_cameIn 0 = .ok (.iconst 0, 1) := by decide +kernel
theorem dX5_cameIn_1 : decode cX5_cameIn 1 = .ok (.istore_n 2, 1) := by decide +kernel
theorem dX5_cameIn_2 : decode cX5_cameIn 2 = .ok (.iconst 0, 1) := by decide +kernel
theorem dX5_cameIn_3 : decode cX5_cameIn 3 = .ok (.istore_n 3, 1) := by decide +kernel
theorem dX5_cameIn_4 : decode cX5_cameIn 4 = .ok (.iload_n 3, 1) := by decide +kernel
theorem dX5_cameIn_5 : decode cX5_cameIn 5 = .ok (.aload_n 0, 1) := by decide +kernel
theorem dX5_cameIn_6 : decode cX5_cameIn 6 = .ok (.getfield 86, 3) := by decide +kernel
theorem dX5_cameIn_9 : decode cX5_cameIn 9 = .ok (.if_icmp .ge 38, 3) := by decide +kernel
theorem dX5_cameIn_12 : decode cX5_cameIn 12 = .ok (.iload_n 2, 1) := by decide +kernel
theorem dX5_cameIn_13 : decode cX5_cameIn 13 = .ok (.ifCond .ne 22, 3) := by decide +kernel
theorem dX5_cameIn_16 : decode cX5_cameIn 16 = .ok (.aload_n 0, 1) := by decide +kernel
theorem dX5_cameIn_17 : decode cX5_cameIn 17 = .ok (.getfield 7, 3) := by decide +kernel
theorem dX5_cameIn_20 : decode cX5_cameIn 20 = .ok (.aload_n 0, 1) := by decide +kernel
theorem dX5_cameIn_21 : decode cX5_cameIn 21 = .ok (.getfield 44, 3) := by decide +kernel
theorem dX5_cameIn_24 : decode cX5_cameIn 24 = .ok (.iload_n 3, 1) := by decide +kernel
theorem dX5_cameIn_25 : decode cX5_cameIn 25 = .ok (.iaload, 1) := by decide +kernel
theorem dX5_cameIn_26 : decode cX5_cameIn 26 = .ok (.iaload, 1) := by decide +kernel
theorem dX5_cameIn_27 : decode cX5_cameIn 27 = .ok (.sipush 10080, 3) := by decide +kernel
theorem dX5_cameIn_30 : decode cX5_cameIn 30 = .ok (.idiv, 1) := by decide +kernel
theorem dX5_cameIn_31 : decode cX5_cameIn 31 = .ok (.iload_n 1, 1) := by decide +kernel
theorem dX5_cameIn_32 : decode cX5_cameIn 32 = .ok (.if_icmp .ne 7, 3) := by decide +kernel
theorem dX5_cameIn_35 : decode cX5_cameIn 35 = .ok (.iconst 1, 1) := by decide +kernel
theorem dX5_cameIn_36 : decode cX5_cameIn 36 = .ok (.goto 4, 3) := by decide +kernel
theorem dX5_cameIn_39 : decode cX5_cameIn 39 = .ok (.iconst 0, 1) := by decide +kernel
theorem dX5_cameIn_40 : decode cX5_cameIn 40 = .ok (.istore_n 2, 1) := by decide +kernel
theorem dX5_cameIn_41 : decode cX5_cameIn 41 = .ok (.iinc 3 1, 3) := by decide +kernel
theorem dX5_cameIn_44 : decode cX5_cameIn 44 = .ok (.goto (-40), 3) := by decide +kernel
theorem dX5_cameIn_47 : decode cX5_cameIn 47 = .ok (.iload_n 2, 1) := by decide +kernel
theorem dX5_cameIn_48 : decode cX5_cameIn 48 = .ok (.ireturn, 1) := by decide +kernel
theorem dX5_born_0 : decode cX5_born 0 = .ok (.aload_n 0, 1) := by decide +kernel
theorem dX5_born_1 : decode cX5_born 1 = .ok (.iload_n 1, 1) := by decide +kernel
theorem dX5_born_2 : decode cX5_born 2 = .ok (.iconst 0, 1) := by decide +kernel
theorem dX5_born_3 : decode cX5_born 3 = .ok (.invokevirtual 163, 3) := by decide +kernel
theorem dX5_born_6 : decode cX5_born 6 = .ok (.ireturn, 1) := by decide +kernel
theorem dX5_came_0 : decode cX5_came 0 = .ok (.iload_n 1, 1) := by decide +kernel
theorem dX5_came_1 : decode cX5_came 1 = .ok (.i2l, 1) := by decide +kernel
theorem dX5_came_2 : decode cX5_came 2 = .ok (.lconst 0, 1) := by decide +kernel
theorem dX5_came_3 : decode cX5_came 3 = .ok (.ldc2_w 167, 3) := by decide +kernel
theorem dX5_came_6 : decode cX5_came 6 = .ok (.invokestatic 61, 3) := by decide +kernel
theorem dX5_came_9 : decode cX5_came 9 = .ok (.ifCond .eq 15, 3) := by decide +kernel
theorem dX5_came_12 : decode cX5_came 12 = .ok (.iload_n 2, 1) := by decide +kernel
theorem dX5_came_13 : decode cX5_came 13 = .ok (.i2l, 1) := by decide +kernel
theorem dX5_came_14 : decode cX5_came 14 = .ok (.lconst 0, 1) := by decide +kernel
theorem dX5_came_15 : decode cX5_came 15 = .ok (.ldc2_w 167, 3) := by decide +kernel
theorem dX5_came_18 : decode cX5_came 18 = .ok (.invokestatic 61, 3) := by decide +kernel
theorem dX5_came_21 : decode cX5_came 21 = .ok (.ifCond .ne 7, 3) := by decide +kernel
theorem dX5_came_24 : decode cX5_came 24 = .ok (.sipush (-1002), 3) := by decide +kernel
theorem dX5_came_27 : decode cX5_came 27 = .ok (.ireturn, 1) := by decide +kernel
theorem dX5_came_28 : decode cX5_came 28 = .ok (.iconst 0, 1) := by decide +kernel
theorem dX5_came_29 : decode cX5_came 29 = .ok (.istore_n 3, 1) := by decide +kernel
theorem dX5_came_30 : decode cX5_came 30 = .ok (.iconst 0, 1) := by decide +kernel
theorem dX5_came_31 : decode cX5_came 31 = .ok (.istore 4, 2) := by decide +kernel
theorem dX5_came_33 : decode cX5_came 33 = .ok (.iload 4, 2) := by decide +kernel
theorem dX5_came_35 : decode cX5_came 35 = .ok (.bipush 24, 2) := by decide +kernel
theorem dX5_came_37 : decode cX5_came 37 = .ok (.if_icmp .ge 51, 3) := by decide +kernel
theorem dX5_came_40 : decode cX5_came 40 = .ok (.aload_n 0, 1) := by decide +kernel
theorem dX5_came_41 : decode cX5_came 41 = .ok (.getfield 23, 3) := by decide +kernel
theorem dX5_came_44 : decode cX5_came 44 = .ok (.iload 4, 2) := by decide +kernel
theorem dX5_came_46 : decode cX5_came 46 = .ok (.iaload, 1) := by decide +kernel
theorem dX5_came_47 : decode cX5_came 47 = .ok (.ifCond .ge 35, 3) := by decide +kernel
theorem dX5_came_50 : decode cX5_came 50 = .ok (.aload_n 0, 1) := by decide +kernel
theorem dX5_came_51 : decode cX5_came 51 = .ok (.iload 4, 2) := by decide +kernel
theorem dX5_came_53 : decode cX5_came 53 = .ok (.invokevirtual 109, 3) := by decide +kernel
theorem dX5_came_56 : decode cX5_came 56 = .ok (.iload_n 3, 1) := by decide +kernel
theorem dX5_came_57 : decode cX5_came 57 = .ok (.aload_n 0, 1) := by decide +kernel
theorem dX5_came_58 : decode cX5_came 58 = .ok (.invokevirtual 119, 3) := by decide +kernel
theorem dX5_came_61 : decode cX5_came 61 = .ok (.iload_n 1, 1) := by decide +kernel
theorem dX5_came_62 : decode cX5_came 62 = .ok (.if_icmp .ne 17, 3) := by decide +kernel
theorem dX5_came_65 : decode cX5_came 65 = .ok (.aload_n 0, 1) := by decide +kernel
theorem dX5_came_66 : decode cX5_came 66 = .ok (.iload_n 1, 1) := by decide +kernel
theorem dX5_came_67 : decode cX5_came 67 = .ok (.iload_n 2, 1) := by decide +kernel
theorem dX5_came_68 : decode cX5_came 68 = .ok (.iadd, 1) := by decide +kernel
theorem dX5_came_69 : decode cX5_came 69 = .ok (.invokevirtual 169, 3) := by decide +kernel
theorem dX5_came_72 : decode cX5_came 72 = .ok (.ifCond .eq 7, 3) := by decide +kernel
theorem dX5_came_75 : decode cX5_came 75 = .ok (.iconst 1, 1) := by decide +kernel
theorem dX5_came_76 : decode cX5_came 76 = .ok (.goto 4, 3) := by decide +kernel
theorem dX5_came_79 : decode cX5_came 79 = .ok (.iconst 0, 1) := by decide +kernel
theorem dX5_came_80 : decode cX5_came 80 = .ok (.iadd, 1) := by decide +kernel
theorem dX5_came_81 : decode cX5_came 81 = .ok (.istore_n 3, 1) := by decide +kernel
theorem dX5_came_82 : decode cX5_came 82 = .ok (.iinc 4 1, 3) := by decide +kernel
theorem dX5_came_85 : decode cX5_came 85 = .ok (.goto (-52), 3) := by decide +kernel
theorem dX5_came_88 : decode cX5_came 88 = .ok (.iload_n 3, 1) := by decide +kernel
theorem dX5_came_89 : decode cX5_came 89 = .ok (.ireturn, 1) := by decide +kernel
theorem dX5_digest_0 : decode cX5_digest 0 = .ok (.bipush 7, 2) := by decide +kernel
theorem dX5_digest_2 : decode cX5_digest 2 = .ok (.istore_n 1, 1) := by decide +kernel
theorem dX5_digest_3 : decode cX5_digest 3 = .ok (.iconst 0, 1) := by decide +kernel
theorem dX5_digest_4 : decode cX5_digest 4 = .ok (.istore_n 2, 1) := by decide +kernel
theorem dX5_digest_5 : decode cX5_digest 5 = .ok (.iload_n 2, 1) := by decide +kernel
theorem dX5_digest_6 : decode cX5_digest 6 = .ok (.bipush 24, 2) := by decide +kernel
theorem dX5_digest_8 : decode cX5_digest 8 = .ok (.if_icmp .ge 73, 3) := by decide +kernel
theorem dX5_digest_11 : decode cX5_digest 11 = .ok (.aload_n 0, 1) := by decide +kernel
theorem dX5_digest_12 : decode cX5_digest 12 = .ok (.getfield 23, 3) := by decide +kernel
theorem dX5_digest_15 : decode cX5_digest 15 = .ok (.iload_n 2, 1) := by decide +kernel
theorem dX5_digest_16 : decode cX5_digest 16 = .ok (.iaload, 1) := by decide +kernel
theorem dX5_digest_17 : decode cX5_digest 17 = .ok (.ifCond .ge 58, 3) := by decide +kernel
theorem dX5_digest_20 : decode cX5_digest 20 = .ok (.aload_n 0, 1) := by decide +kernel
theorem dX5_digest_21 : decode cX5_digest 21 = .ok (.iload_n 2, 1) := by decide +kernel
theorem dX5_digest_22 : decode cX5_digest 22 = .ok (.invokevirtual 109, 3) := by decide +kernel
theorem dX5_digest_25 : decode cX5_digest 25 = .ok (.iconst 0, 1) := by decide +kernel
theorem dX5_digest_26 : decode cX5_digest 26 = .ok (.istore_n 3, 1) := by decide +kernel
theorem dX5_digest_27 : decode cX5_digest 27 = .ok (.iload_n 3, 1) := by decide +kernel
theorem dX5_digest_28 : decode cX5_digest 28 = .ok (.aload_n 0, 1) := by decide +kernel
theorem dX5_digest_29 : decode cX5_digest 29 = .ok (.getfield 86, 3) := by decide +kernel
theorem dX5_digest_32 : decode cX5_digest 32 = .ok (.if_icmp .ge 33, 3) := by decide +kernel
theorem dX5_digest_35 : decode cX5_digest 35 = .ok (.bipush 31, 2) := by decide +kernel
theorem dX5_digest_37 : decode cX5_digest 37 = .ok (.iload_n 1, 1) := by decide +kernel
theorem dX5_digest_38 : decode cX5_digest 38 = .ok (.imul, 1) := by decide +kernel
theorem dX5_digest_39 : decode cX5_digest 39 = .ok (.aload_n 0, 1) := by decide +kernel
theorem dX5_digest_40 : decode cX5_digest 40 = .ok (.getfield 44, 3) := by decide +kernel
theorem dX5_digest_43 : decode cX5_digest 43 = .ok (.iload_n 3, 1) := by decide +kernel
theorem dX5_digest_44 : decode cX5_digest 44 = .ok (.iaload, 1) := by decide +kernel
theorem dX5_digest_45 : decode cX5_digest 45 = .ok (.iadd, 1) := by decide +kernel
theorem dX5_digest_46 : decode cX5_digest 46 = .ok (.istore_n 1, 1) := by decide +kernel
theorem dX5_digest_47 : decode cX5_digest 47 = .ok (.bipush 31, 2) := by decide +kernel
theorem dX5_digest_49 : decode cX5_digest 49 = .ok (.iload_n 1, 1) := by decide +kernel
theorem dX5_digest_50 : decode cX5_digest 50 = .ok (.imul, 1) := by decide +kernel
theorem dX5_digest_51 : decode cX5_digest 51 = .ok (.aload_n 0, 1) := by decide +kernel
theorem dX5_digest_52 : decode cX5_digest 52 = .ok (.getfield 47, 3) := by decide +kernel
theorem dX5_digest_55 : decode cX5_digest 55 = .ok (.iload_n 3, 1) := by decide +kernel
theorem dX5_digest_56 : decode cX5_digest 56 = .ok (.iaload, 1) := by decide +kernel
theorem dX5_digest_57 : decode cX5_digest 57 = .ok (.iadd, 1) := by decide +kernel
theorem dX5_digest_58 : decode cX5_digest 58 = .ok (.istore_n 1, 1) := by decide +kernel
theorem dX5_digest_59 : decode cX5_digest 59 = .ok (.iinc 3 1, 3) := by decide +kernel
theorem dX5_digest_62 : decode cX5_digest 62 = .ok (.goto (-35), 3) := by decide +kernel
theorem dX5_digest_65 : decode cX5_digest 65 = .ok (.bipush 31, 2) := by decide +kernel
theorem dX5_digest_67 : decode cX5_digest 67 = .ok (.iload_n 1, 1) := by decide +kernel
theorem dX5_digest_68 : decode cX5_digest 68 = .ok (.imul, 1) := by decide +kernel
theorem dX5_digest_69 : decode cX5_digest 69 = .ok (.aload_n 0, 1) := by decide +kernel
theorem dX5_digest_70 : decode cX5_digest 70 = .ok (.invokevirtual 119, 3) := by decide +kernel
theorem dX5_digest_73 : decode cX5_digest 73 = .ok (.iadd, 1) := by decide +kernel
theorem dX5_digest_74 : decode cX5_digest 74 = .ok (.istore_n 1, 1) := by decide +kernel
theorem dX5_digest_75 : decode cX5_digest 75 = .ok (.iinc 2 1, 3) := by decide +kernel
theorem dX5_digest_78 : decode cX5_digest 78 = .ok (.goto (-73), 3) := by decide +kernel
theorem dX5_digest_81 : decode cX5_digest 81 = .ok (.iload_n 1, 1) := by decide +kernel
theorem dX5_digest_82 : decode cX5_digest 82 = .ok (.ireturn, 1) := by decide +kernel
