theorem dX7_init_0 : decode cX7_init 0 = .ok (.aload_n 0, 1) := by decide +kernel
theorem dX7_init_1 : decode cX7_init 1 = .ok (.invokespecial 1, 3) := by decide +kernel
theorem dX7_init_4 : decode cX7_init 4 = .ok (.aload_n 0, 1) := by decide +kernel
theorem dX7_init_5 : decode cX7_init 5 = .ok (.bipush 64, 2) := by decide +kernel
theorem dX7_init_7 : decode cX7_init 7 = .ok (.newarray .int, 2) := by decide +kernel
theorem dX7_init_9 : decode cX7_init 9 = .ok (.putfield 7, 3) := by decide +kernel
theorem dX7_init_12 : decode cX7_init 12 = .ok (.aload_n 0, 1) := by decide +kernel
theorem dX7_init_13 : decode cX7_init 13 = .ok (.bipush 64, 2) := by decide +kernel
theorem dX7_init_15 : decode cX7_init 15 = .ok (.newarray .int, 2) := by decide +kernel
theorem dX7_init_17 : decode cX7_init 17 = .ok (.putfield 13, 3) := by decide +kernel
theorem dX7_init_20 : decode cX7_init 20 = .ok (.aload_n 0, 1) := by decide +kernel
theorem dX7_init_21 : decode cX7_init 21 = .ok (.bipush 6, 2) := by decide +kernel
theorem dX7_init_23 : decode cX7_init 23 = .ok (.newarray .int, 2) := by decide +kernel
theorem dX7_init_25 : decode cX7_init 25 = .ok (.putfield 16, 3) := by decide +kernel
theorem dX7_init_28 : decode cX7_init 28 = .ok (.aload_n 0, 1) := by decide +kernel
theorem dX7_init_29 : decode cX7_init 29 = .ok (.bipush 6, 2) := by decide +kernel
theorem dX7_init_31 : decode cX7_init 31 = .ok (.newarray .long, 2) := by decide +kernel
theorem dX7_init_33 : decode cX7_init 33 = .ok (.putfield 19, 3) := by decide +kernel
theorem dX7_init_36 : decode cX7_init 36 = .ok (.aload_n 0, 1) := by decide +kernel
theorem dX7_init_37 : decode cX7_init 37 = .ok (.bipush 6, 2) := by decide +kernel
theorem dX7_init_39 : decode cX7_init 39 = .ok (.newarray .int, 2) := by decide +kernel
theorem dX7_init_41 : decode cX7_init 41 = .ok (.putfield 23, 3) := by decide +kernel
theorem dX7_init_44 : decode cX7_init 44 = .ok (.aload_n 0, 1) := by decide +kernel
theorem dX7_init_45 : decode cX7_init 45 = .ok (.bipush 6, 2) := by decide +kernel
theorem dX7_init_47 : decode cX7_init 47 = .ok (.newarray .int, 2) := by decide +kernel
theorem dX7_init_49 : decode cX7_init 49 = .ok (.putfield 26, 3) := by decide +kernel
theorem dX7_init_52 : decode cX7_init 52 = .ok (.aload_n 0, 1) := by decide +kernel
theorem dX7_init_53 : decode cX7_init 53 = .ok (.bipush 6, 2) := by decide +kernel
theorem dX7_init_55 : decode cX7_init 55 = .ok (.newarray .int, 2) := by decide +kernel
theorem dX7_init_57 : decode cX7_init 57 = .ok (.putfield 29, 3) := by decide +kernel
theorem dX7_init_60 : decode cX7_init 60 = .ok (.aload_n 0, 1) := by decide +kernel
theorem dX7_init_61 : decode cX7_init 61 = .ok (.bipush 8, 2) := by decide +kernel
theorem dX7_init_63 : decode cX7_init 63 = .ok (.newarray .int, 2) := by decide +kernel
theorem dX7_init_65 : decode cX7_init 65 = .ok (.putfield 32, 3) := by decide +kernel
theorem dX7_init_68 : decode cX7_init 68 = .ok (.aload_n 0, 1) := by decide +kernel
theorem dX7_init_69 : decode cX7_init 69 = .ok (.bipush 8, 2) := by decide +kernel
theorem dX7_init_71 : decode cX7_init 71 = .ok (.newarray .int, 2) := by decide +kernel
theorem dX7_init_73 : decode cX7_init 73 = .ok (.putfield 35, 3) := by decide +kernel
theorem dX7_init_76 : decode cX7_init 76 = .ok (.aload_n 0, 1) := by decide +kernel
theorem dX7_init_77 : decode cX7_init 77 = .ok (.bipush 8, 2) := by decide +kernel
theorem dX7_init_79 : decode cX7_init 79 = .ok (.newarray .int, 2) := by decide +kernel
theorem dX7_init_81 : decode cX7_init 81 = .ok (.putfield 38, 3) := by decide +kernel
theorem dX7_init_84 : decode cX7_init 84 = .ok (.aload_n 0, 1) := by decide +kernel
theorem dX7_init_85 : decode cX7_init 85 = .ok (.bipush 8, 2) := by decide +kernel
theorem dX7_init_87 : decode cX7_init 87 = .ok (.newarray .int, 2) := by decide +kernel
theorem dX7_init_89 : decode cX7_init 89 = .ok (.putfield 41, 3) := by decide +kernel
theorem dX7_init_92 : decode cX7_init 92 = .ok (.aload_n 0, 1) := by decide +kernel
theorem dX7_init_93 : decode cX7_init 93 = .ok (.bipush 8, 2) := by decide +kernel
theorem dX7_init_95 : decode cX7_init 95 = .ok (.newarray .int, 2) := by decide +kernel
theorem dX7_init_97 : decode cX7_init 97 = .ok (.putfield 44, 3) := by decide +kernel
theorem dX7_init_100 : decode cX7_init 100 = .ok (.aload_n 0, 1) := by decide +kernel
theorem dX7_init_101 : decode cX7_init 101 = .ok (.bipush 60, 2) := by decide +kernel
theorem dX7_init_103 : decode cX7_init 103 = .ok (.newarray .int, 2) := by decide +kernel
theorem dX7_init_105 : decode cX7_init 105 = .ok (.putfield 47, 3) := by decide +kernel
theorem dX7_init_108 : decode cX7_init 108 = .ok (.aload_n 0, 1) := by decide +kernel
theorem dX7_init_109 : decode cX7_init 109 = .ok (.bipush 60, 2) := by decide +kernel
theorem dX7_init_111 : decode cX7_init 111 = .ok (.newarray .int, 2) := by decide +kernel
theorem dX7_init_113 : decode cX7_init 113 = .ok (.putfield 50, 3) := by decide +kernel
theorem dX7_init_116 : decode cX7_init 116 = .ok (.aload_n 0, 1) := by decide +kernel
theorem dX7_init_117 : decode cX7_init 117 = .ok (.bipush 60, 2) := by decide +kernel
theorem dX7_init_119 : decode cX7_init 119 = .ok (.newarray .int, 2) := by decide +kernel
theorem dX7_init_121 : decode cX7_init 121 = .ok (.putfield 53, 3) := by decide +kernel
theorem dX7_init_124 : decode cX7_init 124 = .ok (.aload_n 0, 1) := by decide +kernel
theorem dX7_init_125 : decode cX7_init 125 = .ok (.bipush 60, 2) := by decide +kernel
theorem dX7_init_127 : decode cX7_init 127 = .ok (.newarray .int, 2) := by decide +kernel
theorem dX7_init_129 : decode cX7_init 129 = .ok (.putfield 56, 3) := by decide +kernel
theorem dX7_init_132 : decode cX7_init 132 = .ok (.aload_n 0, 1) := by decide +kernel
theorem dX7_init_133 : decode cX7_init 133 = .ok (.bipush 88, 2) := by decide +kernel
theorem dX7_init_135 : decode cX7_init 135 = .ok (.newarray .int, 2) := by decide +kernel
theorem dX7_init_137 : decode cX7_init 137 = .ok (.putfield 59, 3) := by decide +kernel
theorem dX7_init_140 : decode cX7_init 140 = .ok (.aload_n 0, 1) := by decide +kernel
theorem dX7_init_141 : decode cX7_init 141 = .ok (.bipush 6, 2) := by decide +kernel
theorem dX7_init_143 : decode cX7_init 143 = .ok (.newarray .long, 2) := by decide +kernel
theorem dX7_init_145 : decode cX7_init 145 = .ok (.putfield 62, 3) := by decide +kernel
theorem dX7_init_148 : decode cX7_init 148 = .ok (.aload_n 0, 1) := by decide +kernel
theorem dX7_init_149 : decode cX7_init 149 = .ok (.bipush 6, 2) := by decide +kernel
theorem dX7_init_151 : decode cX7_init 151 = .ok (.newarray .int, 2) := by decide +kernel
theorem dX7_init_153 : decode cX7_init 153 = .ok (.putfield 65, 3) := by decide +kernel
theorem dX7_init_156 : decode cX7_init 156 = .ok (.aload_n 0, 1) := by decide +kernel
theorem dX7_init_157 : decode cX7_init 157 = .ok (.bipush 6, 2) := by decide +kernel
theorem dX7_init_159 : decode cX7_init 159 = .ok (.newarray .int, 2) := by decide +kernel
theorem dX7_init_161 : decode cX7_init 161 = .ok (.putfield 68, 3) := by decide +kernel
theorem dX7_init_164 : decode cX7_init 164 = .ok (.aload_n 0, 1) := by decide +kernel
theorem dX7_init_165 : decode cX7_init 165 = .ok (.bipush 49, 2) := by decide +kernel
theorem dX7_init_167 : decode cX7_init 167 = .ok (.newarray .int, 2) := by decide +kernel
theorem dX7_init_169 : decode cX7_init 169 = .ok (.putfield 71, 3) := by decide +kernel
theorem dX7_init_172 : decode cX7_init 172 = .ok (.aload_n 0, 1) := by decide +kernel
theorem dX7_init_173 : decode cX7_init 173 = .ok (.sipush 460, 3) := by decide +kernel
theorem dX7_init_176 : decode cX7_init 176 = .ok (.newarray .int, 2) := by decide +kernel
theorem dX7_init_178 : decode cX7_init 178 = .ok (.putfield 74, 3) := by decide +kernel
theorem dX7_init_181 : decode cX7_init 181 = .ok (.aload_n 0, 1) := by decide +kernel
theorem dX7_init_182 : decode cX7_init 182 = .ok (.bipush 12, 2) := by decide +kernel
theorem dX7_init_184 : decode cX7_init 184 = .ok (.newarray .long, 2) := by decide +kernel
theorem dX7_init_186 : decode cX7_init 186 = .ok (.putfield 77, 3) := by decide +kernel
theorem dX7_init_189 : decode cX7_init 189 = .ok (.aload_n 0, 1) := by decide +kernel
theorem dX7_init_190 : decode cX7_init 190 = .ok (.iconst 2, 1) := by decide +kernel
theorem dX7_init_191 : decode cX7_init 191 = .ok (.newarray .boolean, 2) := by decide +kernel
theorem dX7_init_193 : decode cX7_init 193 = .ok (.putfield 80, 3) := by decide +kernel
theorem dX7_init_196 : decode cX7_init 196 = .ok (.iconst 0, 1) := by decide +kernel
theorem dX7_init_197 : decode cX7_init 197 = .ok (.istore_n 1, 1) := by decide +kernel
theorem dX7_init_198 : decode cX7_init 198 = .ok (.iload_n 1, 1) := by decide +kernel
theorem dX7_init_199 : decode cX7_init 199 = .ok (.bipush 64, 2) := by decide +kernel
theorem dX7_init_201 : decode cX7_init 201 = .ok (.if_icmp .ge 17, 3) := by decide +kernel
theorem dX7_init_204 : decode cX7_init 204 = .ok (.aload_n 0, 1) := by decide +kernel
theorem dX7_init_205 : decode cX7_init 205 = .ok (.getfield 13, 3) := by decide +kernel
theorem dX7_init_208 : decode cX7_init 208 = .ok (.iload_n 1, 1) := by decide +kernel
theorem dX7_init_209 : decode cX7_init 209 = .ok (.bipush (-6), 2) := by decide +kernel
theorem dX7_init_211 : decode cX7_init 211 = .ok (.iastore, 1) := by decide +kernel
theorem dX7_init_212 : decode cX7_init 212 = .ok (.iinc 1 1, 3) := by decide +kernel
theorem dX7_init_215 : decode cX7_init 215 = .ok (.goto (-17), 3) := by decide +kernel
theorem dX7_init_218 : decode cX7_init 218 = .ok (.return_, 1) := by decide +kernel
theorem dX7_in_0 : decode cX7_in 0 = .ok (.lload_n 0, 1) := by decide +kernel
theorem dX7_in_1 : decode cX7_in 1 = .ok (.lload_n 2, 1) := by decide +kernel
theorem dX7_in_2 : decode cX7_in 2 = .ok (.lcmp, 1) := by decide +kernel
theorem dX7_in_3 : decode cX7_in 3 = .ok (.ifCond .lt 14, 3) := by decide +kernel
theorem dX7_in_6 : decode cX7_in 6 = .ok (.lload_n 0, 1) := by decide +kernel
theorem dX7_in_7 : decode cX7_in 7 = .ok (.lload 4, 2) := by decide +kernel
theorem dX7_in_9 : decode cX7_in 9 = .ok (.lcmp, 1) := by decide +kernel
theorem dX7_in_10 : decode cX7_in 10 = .ok (.ifCond .gt 7, 3) := by decide +kernel
theorem dX7_in_13 : decode cX7_in 13 = .ok (.iconst 1, 1) := by decide +kernel
theorem dX7_in_14 : decode cX7_in 14 = .ok (.goto 4, 3) := by decide +kernel
theorem dX7_in_17 : decode cX7_in 17 = .ok (.iconst 0, 1) := by decide +kernel
theorem dX7_in_18 : decode cX7_in 18 = .ok (.ireturn, 1) := by decide +kernel
theorem dX7_ones_0 : decode cX7_ones 0 = .ok (.iconst 0, 1) := by decide +kernel
theorem dX7_ones_1 : decode cX7_ones 1 = .ok (.istore_n 1, 1) := by decide +kernel
theorem dX7_ones_2 : decode cX7_ones 2 = .ok (.iload_n 0, 1) := by decide +kernel
theorem dX7_ones_3 : decode cX7_ones 3 = .ok (.istore_n 2, 1) := by decide +kernel
theorem dX7_ones_4 : decode cX7_ones 4 = .ok (.iload_n 2, 1) := by decide +kernel
theorem dX7_ones_5 : decode cX7_ones 5 = .ok (.ifCond .eq 15, 3) := by decide +kernel
theorem dX7_ones_8 : decode cX7_ones 8 = .ok (.iinc 1 1, 3) := by decide +kernel
theorem dX7_ones_11 : decode cX7_ones 11 = .ok (.iload_n 2, 1) := by decide +kernel
theorem dX7_ones_12 : decode cX7_ones 12 = .ok (.iload_n 2, 1) := by decide +kernel
theorem dX7_ones_13 : decode cX7_ones 13 = .ok (.iconst 1, 1) := by decide +kernel
theorem dX7_ones_14 : decode cX7_ones 14 = .ok (.isub, 1) := by decide +kernel
theorem dX7_ones_15 : decode cX7_ones 15 = .ok (.iand, 1) := by decide +kernel
theorem dX7_ones_16 : decode cX7_ones 16 = .ok (.istore_n 2, 1) := by decide +kernel
theorem dX7_ones_17 : decode cX7_ones 17 = .ok (.goto (-13), 3) := by decide +kernel
theorem dX7_ones_20 : decode cX7_ones 20 = .ok (.iload_n 1, 1) := by decide +kernel
theorem dX7_ones_21 : decode cX7_ones 21 = .ok (.ireturn, 1) := by decide +kernel
theorem dX7_over_0 : decode cX7_over 0 = .ok (.iload_n 0, 1) := by decide +kernel
theorem dX7_over_1 : decode cX7_over 1 = .ok (.ifCond .ge 7, 3) := by decide +kernel
theorem dX7_over_4 : decode cX7_over 4 = .ok (.iconst 0, 1) := by decide +kernel
theorem dX7_over_5 : decode cX7_over 5 = .ok (.goto 4, 3) := by decide +kernel
theorem dX7_over_8 : decode cX7_over 8 = .ok (.iload_n 0, 1) := by decide +kernel
theorem dX7_over_9 : decode cX7_over 9 = .ok (.ireturn, 1) := by decide +kernel
theorem dX7_isCell_0 : decode cX7_isCell 0 = .ok (.iload_n 0, 1) := by decide +kernel
theorem dX7_isCell_1 : decode cX7_isCell 1 = .ok (.i2l, 1) := by decide +kernel
theorem dX7_isCell_2 : decode cX7_isCell 2 = .ok (.lconst 0, 1) := by decide +kernel
theorem dX7_isCell_3 : decode cX7_isCell 3 = .ok (.ldc2_w 84, 3) := by decide +kernel
theorem dX7_isCell_6 : decode cX7_isCell 6 = .ok (.invokestatic 86, 3) := by decide +kernel
theorem dX7_isCell_9 : decode cX7_isCell 9 = .ok (.ireturn, 1) := by decide +kernel
theorem dX7_apart_0 : decode cX7_apart 0 = .ok (.iload_n 0, 1) := by decide +kernel
theorem dX7_apart_1 : decode cX7_apart 1 = .ok (.bipush 8, 2) := by decide +kernel
theorem dX7_apart_3 : decode cX7_apart 3 = .ok (.idiv, 1) := by decide +kernel
theorem dX7_apart_4 : decode cX7_apart 4 = .ok (.iload_n 1, 1) := by decide +kernel
theorem dX7_apart_5 : decode cX7_apart 5 = .ok (.bipush 8, 2) := by decide +kernel
theorem dX7_apart_7 : decode cX7_apart 7 = .ok (.idiv, 1) := by decide +kernel
theorem dX7_apart_8 : decode cX7_apart 8 = .ok (.isub, 1) := by decide +kernel
theorem dX7_apart_9 : decode cX7_apart 9 = .ok (.istore_n 2, 1) := by decide +kernel
theorem dX7_apart_10 : decode cX7_apart 10 = .ok (.iload_n 0, 1) := by decide +kernel
theorem dX7_apart_11 : decode cX7_apart 11 = .ok (.bipush 8, 2) := by decide +kernel
theorem dX7_apart_13 : decode cX7_apart 13 = .ok (.irem, 1) := by decide +kernel
theorem dX7_apart_14 : decode cX7_apart 14 = .ok (.iload_n 1, 1) := by decide +kernel
theorem dX7_apart_15 : decode cX7_apart 15 = .ok (.bipush 8, 2) := by decide +kernel
theorem dX7_apart_17 : decode cX7_apart 17 = .ok (.irem, 1) := by decide +kernel
theorem dX7_apart_18 : decode cX7_apart 18 = .ok (.isub, 1) := by decide +kernel
theorem dX7_apart_19 : decode cX7_apart 19 = .ok (.istore_n 3, 1) := by decide +kernel
theorem dX7_apart_20 : decode cX7_apart 20 = .ok (.iload_n 2, 1) := by decide +kernel
theorem dX7_apart_21 : decode cX7_apart 21 = .ok (.ifCond .ge 8, 3) := by decide +kernel
theorem dX7_apart_24 : decode cX7_apart 24 = .ok (.iload_n 2, 1) := by decide +kernel
theorem dX7_apart_25 : decode cX7_apart 25 = .ok (.ineg, 1) := by decide +kernel
theorem dX7_apart_26 : decode cX7_apart 26 = .ok (.goto 4, 3) := by decide +kernel
theorem dX7_apart_29 : decode cX7_apart 29 = .ok (.iload_n 2, 1) := by decide +kernel
theorem dX7_apart_30 : decode cX7_apart 30 = .ok (.iload_n 3, 1) := by decide +kernel
theorem dX7_apart_31 : decode cX7_apart 31 = .ok (.ifCond .ge 8, 3) := by decide +kernel
theorem dX7_apart_34 : decode cX7_apart 34 = .ok (.iload_n 3, 1) := by decide +kernel
theorem dX7_apart_35 : decode cX7_apart 35 = .ok (.ineg, 1) := by decide +kernel
theorem dX7_apart_36 : decode cX7_apart 36 = .ok (.goto 4, 3) := by decide +kernel
theorem dX7_apart_39 : decode cX7_apart 39 = .ok (.iload_n 3, 1) := by decide +kernel
theorem dX7_apart_40 : decode cX7_apart 40 = .ok (.iadd, 1) := by decide +kernel
theorem dX7_apart_41 : decode cX7_apart 41 = .ok (.ireturn, 1) := by decide +kernel
theorem dX7_isMan_0 : decode cX7_isMan 0 = .ok (.iload_n 1, 1) := by decide +kernel
theorem dX7_isMan_1 : decode cX7_isMan 1 = .ok (.i2l, 1) := by decide +kernel
theorem dX7_isMan_2 : decode cX7_isMan 2 = .ok (.lconst 0, 1) := by decide +kernel
theorem dX7_isMan_3 : decode cX7_isMan 3 = .ok (.ldc2_w 90, 3) := by decide +kernel
theorem dX7_isMan_6 : decode cX7_isMan 6 = .ok (.invokestatic 86, 3) := by decide +kernel
theorem dX7_isMan_9 : decode cX7_isMan 9 = .ok (.ifCond .eq 19, 3) := by decide +kernel
theorem dX7_isMan_12 : decode cX7_isMan 12 = .ok (.aload_n 0, 1) := by decide +kernel
theorem dX7_isMan_13 : decode cX7_isMan 13 = .ok (.getfield 92, 3) := by decide +kernel
theorem dX7_isMan_16 : decode cX7_isMan 16 = .ok (.iload_n 1, 1) := by decide +kernel
theorem dX7_isMan_17 : decode cX7_isMan 17 = .ok (.ishr, 1) := by decide +kernel
theorem dX7_isMan_18 : decode cX7_isMan 18 = .ok (.iconst 1, 1) := by decide +kernel
theorem dX7_isMan_19 : decode cX7_isMan 19 = .ok (.iand, 1) := by decide +kernel
theorem dX7_isMan_20 : decode cX7_isMan 20 = .ok (.iconst 1, 1) := by decide +kernel
theorem dX7_isMan_21 : decode cX7_isMan 21 = .ok (.if_icmp .ne 7, 3) := by decide +kernel
theorem dX7_isMan_24 : decode cX7_isMan 24 = .ok (.iconst 1, 1) := by decide +kernel
theorem dX7_isMan_25 : decode cX7_isMan 25 = .ok (.goto 4, 3) := by decide +kernel
theorem dX7_isMan_28 : decode cX7_isMan 28 = .ok (.iconst 0, 1) := by decide +kernel
theorem dX7_isMan_29 : decode cX7_isMan 29 = .ok (.ireturn, 1) := by decide +kernel
theorem dX7_isKnown_0 : decode cX7_isKnown 0 = .ok (.aload_n 0, 1) := by decide +kernel
theorem dX7_isKnown_1 : decode cX7_isKnown 1 = .ok (.getfield 19, 3) := by decide +kernel
theorem dX7_isKnown_4 : decode cX7_isKnown 4 = .ok (.iload_n 1, 1) := by decide +kernel
theorem dX7_isKnown_5 : decode cX7_isKnown 5 = .ok (.laload, 1) := by decide +kernel
theorem dX7_isKnown_6 : decode cX7_isKnown 6 = .ok (.iload_n 2, 1) := by decide +kernel
theorem dX7_isKnown_7 : decode cX7_isKnown 7 = .ok (.lshr, 1) := by decide +kernel
theorem dX7_isKnown_8 : decode cX7_isKnown 8 = .ok (.lconst 1, 1) := by decide +kernel
theorem dX7_isKnown_9 : decode cX7_isKnown 9 = .ok (.land, 1) := by decide +kernel
theorem dX7_isKnown_10 : decode cX7_isKnown 10 = .ok (.lconst 1, 1) := by decide +kernel
theorem dX7_isKnown_11 : decode cX7_isKnown 11 = .ok (.lcmp, 1) := by decide +kernel
theorem dX7_isKnown_12 : decode cX7_isKnown 12 = .ok (.ifCond .ne 7, 3) := by decide +kernel
theorem dX7_isKnown_15 : decode cX7_isKnown 15 = .ok (.iconst 1, 1) := by decide +kernel
theorem dX7_isKnown_16 : decode cX7_isKnown 16 = .ok (.goto 4, 3) := by decide +kernel
theorem dX7_isKnown_19 : decode cX7_isKnown 19 = .ok (.iconst 0, 1) := by decide +kernel
theorem dX7_isKnown_20 : decode cX7_isKnown 20 = .ok (.ireturn, 1) := by decide +kernel
theorem dX7_gold_0 : decode cX7_gold 0 = .ok (.iload_n 1, 1) := by decide +kernel
theorem dX7_gold_1 : decode cX7_gold 1 = .ok (.invokestatic 96, 3) := by decide +kernel
theorem dX7_gold_4 : decode cX7_gold 4 = .ok (.ifCond .eq 15, 3) := by decide +kernel
theorem dX7_gold_7 : decode cX7_gold 7 = .ok (.iload_n 2, 1) := by decide +kernel
theorem dX7_gold_8 : decode cX7_gold 8 = .ok (.i2l, 1) := by decide +kernel
theorem dX7_gold_9 : decode cX7_gold 9 = .ok (.lconst 0, 1) := by decide +kernel
theorem dX7_gold_10 : decode cX7_gold 10 = .ok (.ldc2_w 100, 3) := by decide +kernel
theorem dX7_gold_13 : decode cX7_gold 13 = .ok (.invokestatic 86, 3) := by decide +kernel
theorem dX7_gold_16 : decode cX7_gold 16 = .ok (.ifCond .ne 6, 3) := by decide +kernel
theorem dX7_gold_19 : decode cX7_gold 19 = .ok (.bipush (-2), 2) := by decide +kernel
theorem dX7_gold_21 : decode cX7_gold 21 = .ok (.ireturn, 1) := by decide +kernel
theorem dX7_gold_22 : decode cX7_gold 22 = .ok (.aload_n 0, 1) := by decide +kernel
theorem dX7_gold_23 : decode cX7_gold 23 = .ok (.getfield 7, 3) := by decide +kernel
theorem dX7_gold_26 : decode cX7_gold 26 = .ok (.iload_n 1, 1) := by decide +kernel
theorem dX7_gold_27 : decode cX7_gold 27 = .ok (.iaload, 1) := by decide +kernel
theorem dX7_gold_28 : decode cX7_gold 28 = .ok (.istore_n 3, 1) := by decide +kernel
theorem dX7_gold_29 : decode cX7_gold 29 = .ok (.aload_n 0, 1) := by decide +kernel
theorem dX7_gold_30 : decode cX7_gold 30 = .ok (.getfield 7, 3) := by decide +kernel
theorem dX7_gold_33 : decode cX7_gold 33 = .ok (.iload_n 1, 1) := by decide +kernel
theorem dX7_gold_34 : decode cX7_gold 34 = .ok (.iload_n 2, 1) := by decide +kernel
theorem dX7_gold_35 : decode cX7_gold 35 = .ok (.iastore, 1) := by decide +kernel
theorem dX7_gold_36 : decode cX7_gold 36 = .ok (.iload_n 3, 1) := by decide +kernel
theorem dX7_gold_37 : decode cX7_gold 37 = .ok (.ireturn, 1) := by decide +kernel
theorem dX7_man_0 : decode cX7_man 0 = .ok (.iload_n 1, 1) := by decide +kernel
theorem dX7_man_1 : decode cX7_man 1 = .ok (.i2l, 1) := by decide +kernel
theorem dX7_man_2 : decode cX7_man 2 = .ok (.lconst 0, 1) := by decide +kernel
theorem dX7_man_3 : decode cX7_man 3 = .ok (.ldc2_w 90, 3) := by decide +kernel
theorem dX7_man_6 : decode cX7_man 6 = .ok (.invokestatic 86, 3) := by decide +kernel
theorem dX7_man_9 : decode cX7_man 9 = .ok (.ifCond .ne 5, 3) := by decide +kernel
theorem dX7_man_12 : decode cX7_man 12 = .ok (.iconst (-1), 1) := by decide +kernel
theorem dX7_man_13 : decode cX7_man 13 = .ok (.ireturn, 1) := by decide +kernel
theorem dX7_man_14 : decode cX7_man 14 = .ok (.iload_n 2, 1) := by decide +kernel
theorem dX7_man_15 : decode cX7_man 15 = .ok (.invokestatic 96, 3) := by decide +kernel
theorem dX7_man_18 : decode cX7_man 18 = .ok (.ifCond .ne 6, 3) := by decide +kernel
theorem dX7_man_21 : decode cX7_man 21 = .ok (.bipush (-2), 2) := by decide +kernel
theorem dX7_man_23 : decode cX7_man 23 = .ok (.ireturn, 1) := by decide +kernel
theorem dX7_man_24 : decode cX7_man 24 = .ok (.aload_n 0, 1) := by decide +kernel
theorem dX7_man_25 : decode cX7_man 25 = .ok (.dup, 1) := by decide +kernel
theorem dX7_man_26 : decode cX7_man 26 = .ok (.getfield 92, 3) := by decide +kernel
theorem dX7_man_29 : decode cX7_man 29 = .ok (.iconst 1, 1) := by decide +kernel
theorem dX7_man_30 : decode cX7_man 30 = .ok (.iload_n 1, 1) := by decide +kernel
theorem dX7_man_31 : decode cX7_man 31 = .ok (.ishl, 1) := by decide +kernel
theorem dX7_man_32 : decode cX7_man 32 = .ok (.ior, 1) := by decide +kernel
theorem dX7_man_33 : decode cX7_man 33 = .ok (.putfield 92, 3) := by decide +kernel
theorem dX7_man_36 : decode cX7_man 36 = .ok (.aload_n 0, 1) := by decide +kernel
theorem dX7_man_37 : decode cX7_man 37 = .ok (.getfield 16, 3) := by decide +kernel
theorem dX7_man_40 : decode cX7_man 40 = .ok (.iload_n 1, 1) := by decide +kernel
theorem dX7_man_41 : decode cX7_man 41 = .ok (.iload_n 2, 1) := by decide +kernel
theorem dX7_man_42 : decode cX7_man 42 = .ok (.iastore, 1) := by decide +kernel
theorem dX7_man_43 : decode cX7_man 43 = .ok (.aload_n 0, 1) := by decide +kernel
theorem dX7_man_44 : decode cX7_man 44 = .ok (.getfield 19, 3) := by decide +kernel
theorem dX7_man_47 : decode cX7_man 47 = .ok (.iload_n 1, 1) := by decide +kernel
theorem dX7_man_48 : decode cX7_man 48 = .ok (.lconst 0, 1) := by decide +kernel
theorem dX7_man_49 : decode cX7_man 49 = .ok (.lastore, 1) := by decide +kernel
theorem dX7_man_50 : decode cX7_man 50 = .ok (.aload_n 0, 1) := by decide +kernel
theorem dX7_man_51 : decode cX7_man 51 = .ok (.getfield 23, 3) := by decide +kernel
theorem dX7_man_54 : decode cX7_man 54 = .ok (.iload_n 1, 1) := by decide +kernel
theorem dX7_man_55 : decode cX7_man 55 = .ok (.iconst 0, 1) := by decide +kernel
theorem dX7_man_56 : decode cX7_man 56 = .ok (.iastore, 1) := by decide +kernel
theorem dX7_man_57 : decode cX7_man 57 = .ok (.aload_n 0, 1) := by decide +kernel
theorem dX7_man_58 : decode cX7_man 58 = .ok (.getfield 26, 3) := by decide +kernel
theorem dX7_man_61 : decode cX7_man 61 = .ok (.iload_n 1, 1) := by decide +kernel
theorem dX7_man_62 : decode cX7_man 62 = .ok (.iconst 0, 1) := by decide +kernel
theorem dX7_man_63 : decode cX7_man 63 = .ok (.iastore, 1) := by decide +kernel
theorem dX7_man_64 : decode cX7_man 64 = .ok (.aload_n 0, 1) := by decide +kernel
theorem dX7_man_65 : decode cX7_man 65 = .ok (.getfield 29, 3) := by decide +kernel
theorem dX7_man_68 : decode cX7_man 68 = .ok (.iload_n 1, 1) := by decide +kernel
theorem dX7_man_69 : decode cX7_man 69 = .ok (.iconst 0, 1) := by decide +kernel
theorem dX7_man_70 : decode cX7_man 70 = .ok (.iastore, 1) := by decide +kernel
theorem dX7_man_71 : decode cX7_man 71 = .ok (.aload_n 0, 1) := by decide +kernel
theorem dX7_man_72 : decode cX7_man 72 = .ok (.getfield 92, 3) := by decide +kernel
theorem dX7_man_75 : decode cX7_man 75 = .ok (.invokestatic 102, 3) := by decide +kernel
theorem dX7_man_78 : decode cX7_man 78 = .ok (.ireturn, 1) := by decide +kernel
theorem dX7_leave_0 : decode cX7_leave 0 = .ok (.aload_n 0, 1) := by decide +kernel
theorem dX7_leave_1 : decode cX7_leave 1 = .ok (.iload_n 1, 1) := by decide +kernel
theorem dX7_leave_2 : decode cX7_leave 2 = .ok (.invokevirtual 106, 3) := by decide +kernel
theorem dX7_leave_5 : decode cX7_leave 5 = .ok (.ifCond .ne 5, 3) := by decide +kernel
theorem dX7_leave_8 : decode cX7_leave 8 = .ok (.iconst (-1), 1) := by decide +kernel
theorem dX7_leave_9 : decode cX7_leave 9 = .ok (.ireturn, 1) := by decide +kernel
theorem dX7_leave_10 : decode cX7_leave 10 = .ok (.aload_n 0, 1) := by decide +kernel
theorem dX7_leave_11 : decode cX7_leave 11 = .ok (.dup, 1) := by decide +kernel
theorem dX7_leave_12 : decode cX7_leave 12 = .ok (.getfield 92, 3) := by decide +kernel
theorem dX7_leave_15 : decode cX7_leave 15 = .ok (.iconst 1, 1) := by decide +kernel
theorem dX7_leave_16 : decode cX7_leave 16 = .ok (.iload_n 1, 1) := by decide +kernel
theorem dX7_leave_17 : decode cX7_leave 17 = .ok (.ishl, 1) := by decide +kernel
theorem dX7_leave_18 : decode cX7_leave 18 = .ok (.iconst (-1), 1) := by decide +kernel
theorem dX7_leave_19 : decode cX7_leave 19 = .ok (.ixor, 1) := by decide +kernel
theorem dX7_leave_20 : decode cX7_leave 20 = .ok (.iand, 1) := by decide +kernel
theorem dX7_leave_21 : decode cX7_leave 21 = .ok (.putfield 92, 3) := by decide +kernel
theorem dX7_leave_24 : decode cX7_leave 24 = .ok (.iconst 0, 1) := by decide +kernel
theorem dX7_leave_25 : decode cX7_leave 25 = .ok (.istore_n 2, 1) := by decide +kernel
theorem dX7_leave_26 : decode cX7_leave 26 = .ok (.iload_n 2, 1) := by decide +kernel
theorem dX7_leave_27 : decode cX7_leave 27 = .ok (.bipush 64, 2) := by decide +kernel
theorem dX7_leave_29 : decode cX7_leave 29 = .ok (.if_icmp .ge 36, 3) := by decide +kernel
theorem dX7_leave_32 : decode cX7_leave 32 = .ok (.aload_n 0, 1) := by decide +kernel
theorem dX7_leave_33 : decode cX7_leave 33 = .ok (.getfield 13, 3) := by decide +kernel
theorem dX7_leave_36 : decode cX7_leave 36 = .ok (.iload_n 2, 1) := by decide +kernel
theorem dX7_leave_37 : decode cX7_leave 37 = .ok (.aload_n 0, 1) := by decide +kernel
theorem dX7_leave_38 : decode cX7_leave 38 = .ok (.getfield 13, 3) := by decide +kernel
theorem dX7_leave_41 : decode cX7_leave 41 = .ok (.iload_n 2, 1) := by decide +kernel
theorem dX7_leave_42 : decode cX7_leave 42 = .ok (.iaload, 1) := by decide +kernel
theorem dX7_leave_43 : decode cX7_leave 43 = .ok (.iload_n 1, 1) := by decide +kernel
theorem dX7_leave_44 : decode cX7_leave 44 = .ok (.if_icmp .ne 8, 3) := by decide +kernel
theorem dX7_leave_47 : decode cX7_leave 47 = .ok (.bipush (-6), 2) := by decide +kernel
theorem dX7_leave_49 : decode cX7_leave 49 = .ok (.goto 9, 3) := by decide +kernel
theorem dX7_leave_52 : decode cX7_leave 52 = .ok (.aload_n 0, 1) := by decide +kernel
theorem dX7_leave_53 : decode cX7_leave 53 = .ok (.getfield 13, 3) := by decide +kernel
theorem dX7_leave_56 : decode cX7_leave 56 = .ok (.iload_n 2, 1) := by decide +kernel
theorem dX7_leave_57 : decode cX7_leave 57 = .ok (.iaload, 1) := by decide +kernel
theorem dX7_leave_58 : decode cX7_leave 58 = .ok (.iastore, 1) := by decide +kernel
theorem dX7_leave_59 : decode cX7_leave 59 = .ok (.iinc 2 1, 3) := by decide +kernel
theorem dX7_leave_62 : decode cX7_leave 62 = .ok (.goto (-36), 3) := by decide +kernel
theorem dX7_leave_65 : decode cX7_leave 65 = .ok (.aload_n 0, 1) := by decide +kernel
theorem dX7_leave_66 : decode cX7_leave 66 = .ok (.getfield 92, 3) := by decide +kernel
theorem dX7_leave_69 : decode cX7_leave 69 = .ok (.invokestatic 102, 3) := by decide +kernel
theorem dX7_leave_72 : decode cX7_leave 72 = .ok (.ireturn, 1) := by decide +kernel
theorem dX7_know_0 : decode cX7_know 0 = .ok (.aload_n 0, 1) := by decide +kernel
theorem dX7_know_1 : decode cX7_know 1 = .ok (.iload_n 1, 1) := by decide +kernel
theorem dX7_know_2 : decode cX7_know 2 = .ok (.invokevirtual 106, 3) := by decide +kernel
theorem dX7_know_5 : decode cX7_know 5 = .ok (.ifCond .ne 5, 3) := by decide +kernel
theorem dX7_know_8 : decode cX7_know 8 = .ok (.iconst (-1), 1) := by decide +kernel
theorem dX7_know_9 : decode cX7_know 9 = .ok (.ireturn, 1) := by decide +kernel
theorem dX7_know_10 : decode cX7_know 10 = .ok (.iload_n 2, 1) := by decide +kernel
theorem dX7_know_11 : decode cX7_know 11 = .ok (.invokestatic 96, 3) := by decide +kernel
theorem dX7_know_14 : decode cX7_know 14 = .ok (.ifCond .ne 6, 3) := by decide +kernel
theorem dX7_know_17 : decode cX7_know 17 = .ok (.bipush (-2), 2) := by decide +kernel
theorem dX7_know_19 : decode cX7_know 19 = .ok (.ireturn, 1) := by decide +kernel
theorem dX7_know_20 : decode cX7_know 20 = .ok (.aload_n 0, 1) := by decide +kernel
theorem dX7_know_21 : decode cX7_know 21 = .ok (.getfield 19, 3) := by decide +kernel
theorem dX7_know_24 : decode cX7_know 24 = .ok (.iload_n 1, 1) := by decide +kernel
theorem dX7_know_25 : decode cX7_know 25 = .ok (.iload_n 3, 1) := by decide +kernel
theorem dX7_know_26 : decode cX7_know 26 = .ok (.ifCond .eq 16, 3) := by decide +kernel
theorem dX7_know_29 : decode cX7_know 29 = .ok (.aload_n 0, 1) := by decide +kernel
theorem dX7_know_30 : decode cX7_know 30 = .ok (.getfield 19, 3) := by decide +kernel
theorem dX7_know_33 : decode cX7_know 33 = .ok (.iload_n 1, 1) := by decide +kernel
theorem dX7_know_34 : decode cX7_know 34 = .ok (.laload, 1) := by decide +kernel
theorem dX7_know_35 : decode cX7_know 35 = .ok (.lconst 1, 1) := by decide +kernel
theorem dX7_know_36 : decode cX7_know 36 = .ok (.iload_n 2, 1) := by decide +kernel
theorem dX7_know_37 : decode cX7_know 37 = .ok (.lshl, 1) := by decide +kernel
theorem dX7_know_38 : decode cX7_know 38 = .ok (.lor, 1) := by decide +kernel
theorem dX7_know_39 : decode cX7_know 39 = .ok (.goto 17, 3) := by decide +kernel
theorem dX7_know_42 : decode cX7_know 42 = .ok (.aload_n 0, 1) := by decide +kernel
theorem dX7_know_43 : decode cX7_know 43 = .ok (.getfield 19, 3) := by decide +kernel
theorem dX7_know_46 : decode cX7_know 46 = .ok (.iload_n 1, 1) := by decide +kernel
theorem dX7_know_47 : decode cX7_know 47 = .ok (.laload, 1) := by decide +kernel
theorem dX7_know_48 : decode cX7_know 48 = .ok (.lconst 1, 1) := by decide +kernel
theorem dX7_know_49 : decode cX7_know 49 = .ok (.iload_n 2, 1) := by decide +kernel
theorem dX7_know_50 : decode cX7_know 50 = .ok (.lshl, 1) := by decide +kernel
theorem dX7_know_51 : decode cX7_know 51 = .ok (.ldc2_w 109, 3) := by decide +kernel
theorem dX7_know_54 : decode cX7_know 54 = .ok (.lxor, 1) := by decide +kernel
theorem dX7_know_55 : decode cX7_know 55 = .ok (.land, 1) := by decide +kernel
theorem dX7_know_56 : decode cX7_know 56 = .ok (.lastore, 1) := by decide +kernel
theorem dX7_know_57 : decode cX7_know 57 = .ok (.aload_n 0, 1) := by decide +kernel
theorem dX7_know_58 : decode cX7_know 58 = .ok (.iload_n 1, 1) := by decide +kernel
theorem dX7_know_59 : decode cX7_know 59 = .ok (.invokevirtual 111, 3) := by decide +kernel
theorem dX7_know_62 : decode cX7_know 62 = .ok (.ireturn, 1) := by decide +kernel
theorem dX7_knownBy_0 : decode cX7_knownBy 0 = .ok (.iconst 0, 1) := by decide +kernel
theorem dX7_knownBy_1 : decode cX7_knownBy 1 = .ok (.istore_n 2, 1) := by decide +kernel
theorem dX7_knownBy_2 : decode cX7_knownBy 2 = .ok (.iconst 0, 1) := by decide +kernel
theorem dX7_knownBy_3 : decode cX7_knownBy 3 = .ok (.istore_n 3, 1) := by decide +kernel
theorem dX7_knownBy_4 : decode cX7_knownBy 4 = .ok (.iload_n 3, 1) := by decide +kernel
theorem dX7_knownBy_5 : decode cX7_knownBy 5 = .ok (.bipush 64, 2) := by decide +kernel
theorem dX7_knownBy_7 : decode cX7_knownBy 7 = .ok (.if_icmp .ge 26, 3) := by decide +kernel
theorem dX7_knownBy_10 : decode cX7_knownBy 10 = .ok (.iload_n 2, 1) := by decide +kernel
theorem dX7_knownBy_11 : decode cX7_knownBy 11 = .ok (.aload_n 0, 1) := by decide +kernel
theorem dX7_knownBy_12 : decode cX7_knownBy 12 = .ok (.iload_n 1, 1) := by decide +kernel
theorem dX7_knownBy_13 : decode cX7_knownBy 13 = .ok (.iload_n 3, 1) := by decide +kernel
theorem dX7_knownBy_14 : decode cX7_knownBy 14 = .ok (.invokevirtual 114, 3) := by decide +kernel
theorem dX7_knownBy_17 : decode cX7_knownBy 17 = .ok (.ifCond .eq 7, 3) := by decide +kernel
theorem dX7_knownBy_20 : decode cX7_knownBy 20 = .ok (.iconst 1, 1) := by decide +kernel
theorem dX7_knownBy_21 : decode cX7_knownBy 21 = .ok (.goto 4, 3) := by decide +kernel
theorem dX7_knownBy_24 : decode cX7_knownBy 24 = .ok (.iconst 0, 1) := by decide +kernel
theorem dX7_knownBy_25 : decode cX7_knownBy 25 = .ok (.iadd, 1) := by decide +kernel
theorem dX7_knownBy_26 : decode cX7_knownBy 26 = .ok (.istore_n 2, 1) := by decide +kernel
theorem dX7_knownBy_27 : decode cX7_knownBy 27 = .ok (.iinc 3 1, 3) := by decide +kernel
theorem dX7_knownBy_30 : decode cX7_knownBy 30 = .ok (.goto (-26), 3) := by decide +kernel
theorem dX7_knownBy_33 : decode cX7_knownBy 33 = .ok (.iload_n 2, 1) := by decide +kernel
theorem dX7_knownBy_34 : decode cX7_knownBy 34 = .ok (.ireturn, 1) := by decide +kernel
theorem dX7_claimedBy_0 : decode cX7_claimedBy 0 = .ok (.iconst 0, 1) := by decide +kernel
theorem dX7_claimedBy_1 : decode cX7_claimedBy 1 = .ok (.istore_n 2, 1) := by decide +kernel
theorem dX7_claimedBy_2 : decode cX7_claimedBy 2 = .ok (.iconst 0, 1) := by decide +kernel
theorem dX7_claimedBy_3 : decode cX7_claimedBy 3 = .ok (.istore_n 3, 1) := by decide +kernel
theorem dX7_claimedBy_4 : decode cX7_claimedBy 4 = .ok (.iload_n 3, 1) := by decide +kernel
theorem dX7_claimedBy_5 : decode cX7_claimedBy 5 = .ok (.bipush 64, 2) := by decide +kernel
theorem dX7_claimedBy_7 : decode cX7_claimedBy 7 = .ok (.if_icmp .ge 27, 3) := by decide +kernel
theorem dX7_claimedBy_10 : decode cX7_claimedBy 10 = .ok (.iload_n 2, 1) := by decide +kernel
theorem dX7_claimedBy_11 : decode cX7_claimedBy 11 = .ok (.aload_n 0, 1) := by decide +kernel
theorem dX7_claimedBy_12 : decode cX7_claimedBy 12 = .ok (.getfield 13, 3) := by decide +kernel
theorem dX7_claimedBy_15 : decode cX7_claimedBy 15 = .ok (.iload_n 3, 1) := by decide +kernel
theorem dX7_claimedBy_16 : decode cX7_claimedBy 16 = .ok (.iaload, 1) := by decide +kernel
theorem dX7_claimedBy_17 : decode cX7_claimedBy 17 = .ok (.iload_n 1, 1) := by decide +kernel
theorem dX7_claimedBy_18 : decode cX7_claimedBy 18 = .ok (.if_icmp .ne 7, 3) := by decide +kernel
theorem dX7_claimedBy_21 : decode cX7_claimedBy 21 = .ok (.iconst 1, 1) := by decide +kernel
theorem dX7_claimedBy_22 : decode cX7_claimedBy 22 = .ok (.goto 4, 3) := by decide +kernel
theorem dX7_claimedBy_25 : decode cX7_claimedBy 25 = .ok (.iconst 0, 1) := by decide +kernel
theorem dX7_claimedBy_26 : decode cX7_claimedBy 26 = .ok (.iadd, 1) := by decide +kernel
theorem dX7_claimedBy_27 : decode cX7_claimedBy 27 = .ok (.istore_n 2, 1) := by decide +kernel
theorem dX7_claimedBy_28 : decode cX7_claimedBy 28 = .ok (.iinc 3 1, 3) := by decide +kernel
theorem dX7_claimedBy_31 : decode cX7_claimedBy 31 = .ok (.goto (-27), 3) := by decide +kernel
theorem dX7_claimedBy_34 : decode cX7_claimedBy 34 = .ok (.iload_n 2, 1) := by decide +kernel
theorem dX7_claimedBy_35 : decode cX7_claimedBy 35 = .ok (.ireturn, 1) := by decide +kernel
theorem dX7_claimedCells_0 : decode cX7_claimedCells 0 = .ok (.bipush 64, 2) := by decide +kernel
theorem dX7_claimedCells_2 : decode cX7_claimedCells 2 = .ok (.aload_n 0, 1) := by decide +kernel
theorem dX7_claimedCells_3 : decode cX7_claimedCells 3 = .ok (.bipush (-6), 2) := by decide +kernel
theorem dX7_claimedCells_5 : decode cX7_claimedCells 5 = .ok (.invokevirtual 118, 3) := by decide +kernel
theorem dX7_claimedCells_8 : decode cX7_claimedCells 8 = .ok (.isub, 1) := by decide +kernel
theorem dX7_claimedCells_9 : decode cX7_claimedCells 9 = .ok (.ireturn, 1) := by decide +kernel
theorem dX7_claim_0 : decode cX7_claim 0 = .ok (.iload_n 2, 1) := by decide +kernel
theorem dX7_claim_1 : decode cX7_claim 1 = .ok (.iconst (-1), 1) := by decide +kernel
theorem dX7_claim_2 : decode cX7_claim 2 = .ok (.if_icmp .eq 13, 3) := by decide +kernel
theorem dX7_claim_5 : decode cX7_claim 5 = .ok (.aload_n 0, 1) := by decide +kernel
theorem dX7_claim_6 : decode cX7_claim 6 = .ok (.iload_n 2, 1) := by decide +kernel
theorem dX7_claim_7 : decode cX7_claim 7 = .ok (.invokevirtual 106, 3) := by decide +kernel
theorem dX7_claim_10 : decode cX7_claim 10 = .ok (.ifCond .ne 5, 3) := by decide +kernel
theorem dX7_claim_13 : decode cX7_claim 13 = .ok (.iconst (-1), 1) := by decide +kernel
theorem dX7_claim_14 : decode cX7_claim 14 = .ok (.ireturn, 1) := by decide +kernel
theorem dX7_claim_15 : decode cX7_claim 15 = .ok (.iload_n 1, 1) := by decide +kernel
theorem dX7_claim_16 : decode cX7_claim 16 = .ok (.invokestatic 96, 3) := by decide +kernel
theorem dX7_claim_19 : decode cX7_claim 19 = .ok (.ifCond .ne 6, 3) := by decide +kernel
theorem dX7_claim_22 : decode cX7_claim 22 = .ok (.bipush (-2), 2) := by decide +kernel
theorem dX7_claim_24 : decode cX7_claim 24 = .ok (.ireturn, 1) := by decide +kernel
theorem dX7_claim_25 : decode cX7_claim 25 = .ok (.aload_n 0, 1) := by decide +kernel
theorem dX7_claim_26 : decode cX7_claim 26 = .ok (.getfield 13, 3) := by decide +kernel
theorem dX7_claim_29 : decode cX7_claim 29 = .ok (.iload_n 1, 1) := by decide +kernel
theorem dX7_claim_30 : decode cX7_claim 30 = .ok (.iload_n 2, 1) := by decide +kernel
theorem dX7_claim_31 : decode cX7_claim 31 = .ok (.iconst (-1), 1) := by decide +kernel
theorem dX7_claim_32 : decode cX7_claim 32 = .ok (.if_icmp .ne 8, 3) := by decide +kernel
theorem dX7_claim_35 : decode cX7_claim 35 = .ok (.bipush (-6), 2) := by decide +kernel
theorem dX7_claim_37 : decode cX7_claim 37 = .ok (.goto 4, 3) := by decide +kernel
theorem dX7_claim_40 : decode cX7_claim 40 = .ok (.iload_n 2, 1) := by decide +kernel
theorem dX7_claim_41 : decode cX7_claim 41 = .ok (.iastore, 1) := by decide +kernel
theorem dX7_claim_42 : decode cX7_claim 42 = .ok (.aload_n 0, 1) := by decide +kernel
theorem dX7_claim_43 : decode cX7_claim 43 = .ok (.invokevirtual 121, 3) := by decide +kernel
theorem dX7_claim_46 : decode cX7_claim 46 = .ok (.ireturn, 1) := by decide +kernel
theorem dX7_say_0 : decode cX7_say 0 = .ok (.iload_n 1, 1) := by decide +kernel
theorem dX7_say_1 : decode cX7_say 1 = .ok (.i2l, 1) := by decide +kernel
theorem dX7_say_2 : decode cX7_say 2 = .ok (.ldc2_w 125, 3) := by decide +kernel
theorem dX7_say_5 : decode cX7_say 5 = .ok (.ldc2_w 127, 3) := by decide +kernel
theorem dX7_say_8 : decode cX7_say 8 = .ok (.invokestatic 86, 3) := by decide +kernel
theorem dX7_say_11 : decode cX7_say 11 = .ok (.ifCond .ne 6, 3) := by decide +kernel
theorem dX7_say_14 : decode cX7_say 14 = .ok (.bipush (-2), 2) := by decide +kernel
theorem dX7_say_16 : decode cX7_say 16 = .ok (.ireturn, 1) := by decide +kernel
theorem dX7_say_17 : decode cX7_say 17 = .ok (.aload_n 0, 1) := by decide +kernel
theorem dX7_say_18 : decode cX7_say 18 = .ok (.getfield 129, 3) := by decide +kernel
theorem dX7_say_21 : decode cX7_say 21 = .ok (.bipush 60, 2) := by decide +kernel
theorem dX7_say_23 : decode cX7_say 23 = .ok (.if_icmp .ne 6, 3) := by decide +kernel
theorem dX7_say_26 : decode cX7_say 26 = .ok (.bipush (-4), 2) := by decide +kernel
theorem dX7_say_28 : decode cX7_say 28 = .ok (.ireturn, 1) := by decide +kernel
theorem dX7_say_29 : decode cX7_say 29 = .ok (.aload_n 0, 1) := by decide +kernel
theorem dX7_say_30 : decode cX7_say 30 = .ok (.getfield 47, 3) := by decide +kernel
theorem dX7_say_33 : decode cX7_say 33 = .ok (.aload_n 0, 1) := by decide +kernel
theorem dX7_say_34 : decode cX7_say 34 = .ok (.getfield 129, 3) := by decide +kernel
theorem dX7_say_37 : decode cX7_say 37 = .ok (.iload_n 1, 1) := by decide +kernel
theorem dX7_say_38 : decode cX7_say 38 = .ok (.iastore, 1) := by decide +kernel
theorem dX7_say_39 : decode cX7_say 39 = .ok (.aload_n 0, 1) := by decide +kernel
theorem dX7_say_40 : decode cX7_say 40 = .ok (.dup, 1) := by decide +kernel
theorem dX7_say_41 : decode cX7_say 41 = .ok (.getfield 129, 3) := by decide +kernel
theorem dX7_say_44 : decode cX7_say 44 = .ok (.iconst 1, 1) := by decide +kernel
theorem dX7_say_45 : decode cX7_say 45 = .ok (.iadd, 1) := by decide +kernel
theorem dX7_say_46 : decode cX7_say 46 = .ok (.putfield 129, 3) := by decide +kernel
theorem dX7_say_49 : decode cX7_say 49 = .ok (.aload_n 0, 1) := by decide +kernel
theorem dX7_say_50 : decode cX7_say 50 = .ok (.getfield 129, 3) := by decide +kernel
theorem dX7_say_53 : decode cX7_say 53 = .ok (.ireturn, 1) := by decide +kernel
theorem dX7_wipe_0 : decode cX7_wipe 0 = .ok (.aload_n 0, 1) := by decide +kernel
theorem dX7_wipe_1 : decode cX7_wipe 1 = .ok (.getfield 129, 3) := by decide +kernel
theorem dX7_wipe_4 : decode cX7_wipe 4 = .ok (.istore_n 1, 1) := by decide +kernel
theorem dX7_wipe_5 : decode cX7_wipe 5 = .ok (.aload_n 0, 1) := by decide +kernel
theorem dX7_wipe_6 : decode cX7_wipe 6 = .ok (.iconst 0, 1) := by decide +kernel
theorem dX7_wipe_7 : decode cX7_wipe 7 = .ok (.putfield 129, 3) := by decide +kernel
theorem dX7_wipe_10 : decode cX7_wipe 10 = .ok (.iload_n 1, 1) := by decide +kernel
theorem dX7_wipe_11 : decode cX7_wipe 11 = .ok (.ireturn, 1) := by decide +kernel
theorem dX7_close_0 : decode cX7_close 0 = .ok (.aload_n 0, 1) := by decide +kernel
theorem dX7_close_1 : decode cX7_close 1 = .ok (.getfield 50, 3) := by decide +kernel
theorem dX7_close_4 : decode cX7_close 4 = .ok (.aload_n 0, 1) := by decide +kernel
theorem dX7_close_5 : decode cX7_close 5 = .ok (.getfield 132, 3) := by decide +kernel
theorem dX7_close_8 : decode cX7_close 8 = .ok (.iload_n 1, 1) := by decide +kernel
theorem dX7_close_9 : decode cX7_close 9 = .ok (.iastore, 1) := by decide +kernel
theorem dX7_close_10 : decode cX7_close 10 = .ok (.aload_n 0, 1) := by decide +kernel
theorem dX7_close_11 : decode cX7_close 11 = .ok (.getfield 56, 3) := by decide +kernel
theorem dX7_close_14 : decode cX7_close 14 = .ok (.aload_n 0, 1) := by decide +kernel
theorem dX7_close_15 : decode cX7_close 15 = .ok (.getfield 132, 3) := by decide +kernel
theorem dX7_close_18 : decode cX7_close 18 = .ok (.iload_n 2, 1) := by decide +kernel
theorem dX7_close_19 : decode cX7_close 19 = .ok (.iastore, 1) := by decide +kernel
theorem dX7_close_20 : decode cX7_close 20 = .ok (.aload_n 0, 1) := by decide +kernel
theorem dX7_close_21 : decode cX7_close 21 = .ok (.dup, 1) := by decide +kernel
theorem dX7_close_22 : decode cX7_close 22 = .ok (.getfield 132, 3) := by decide +kernel
theorem dX7_close_25 : decode cX7_close 25 = .ok (.iconst 1, 1) := by decide +kernel
theorem dX7_close_26 : decode cX7_close 26 = .ok (.iadd, 1) := by decide +kernel
theorem dX7_close_27 : decode cX7_close 27 = .ok (.putfield 132, 3) := by decide +kernel
theorem dX7_close_30 : decode cX7_close 30 = .ok (.iconst 0, 1) := by decide +kernel
theorem dX7_close_31 : decode cX7_close 31 = .ok (.ireturn, 1) := by decide +kernel
theorem dX7_deed_0 : decode cX7_deed 0 = .ok (.iload_n 1, 1) := by decide +kernel
theorem dX7_deed_1 : decode cX7_deed 1 = .ok (.lookupswitch 131 #[(42, 117), (99, 110), (100, 103), (101, 82), (110, 75), (115, 89), (119, 96), (126, 124)], 75) := by decide +kernel
theorem dX7_deed_76 : decode cX7_deed 76 = .ok (.aload_n 0, 1) := by decide +kernel
theorem dX7_deed_77 : decode cX7_deed 77 = .ok (.iconst 0, 1) := by decide +kernel
theorem dX7_deed_78 : decode cX7_deed 78 = .ok (.iconst 0, 1) := by decide +kernel
theorem dX7_deed_79 : decode cX7_deed 79 = .ok (.invokevirtual 135, 3) := by decide +kernel
theorem dX7_deed_82 : decode cX7_deed 82 = .ok (.ireturn, 1) := by decide +kernel
theorem dX7_deed_83 : decode cX7_deed 83 = .ok (.aload_n 0, 1) := by decide +kernel
theorem dX7_deed_84 : decode cX7_deed 84 = .ok (.iconst 0, 1) := by decide +kernel
theorem dX7_deed_85 : decode cX7_deed 85 = .ok (.iconst 1, 1) := by decide +kernel
theorem dX7_deed_86 : decode cX7_deed 86 = .ok (.invokevirtual 135, 3) := by decide +kernel
theorem dX7_deed_89 : decode cX7_deed 89 = .ok (.ireturn, 1) := by decide +kernel
theorem dX7_deed_90 : decode cX7_deed 90 = .ok (.aload_n 0, 1) := by decide +kernel
theorem dX7_deed_91 : decode cX7_deed 91 = .ok (.iconst 0, 1) := by decide +kernel
theorem dX7_deed_92 : decode cX7_deed 92 = .ok (.iconst 2, 1) := by decide +kernel
theorem dX7_deed_93 : decode cX7_deed 93 = .ok (.invokevirtual 135, 3) := by decide +kernel
theorem dX7_deed_96 : decode cX7_deed 96 = .ok (.ireturn, 1) := by decide +kernel
theorem dX7_deed_97 : decode cX7_deed 97 = .ok (.aload_n 0, 1) := by decide +kernel
theorem dX7_deed_98 : decode cX7_deed 98 = .ok (.iconst 0, 1) := by decide +kernel
theorem dX7_deed_99 : decode cX7_deed 99 = .ok (.iconst 3, 1) := by decide +kernel
theorem dX7_deed_100 : decode cX7_deed 100 = .ok (.invokevirtual 135, 3) := by decide +kernel
theorem dX7_deed_103 : decode cX7_deed 103 = .ok (.ireturn, 1) := by decide +kernel
theorem dX7_deed_104 : decode cX7_deed 104 = .ok (.aload_n 0, 1) := by decide +kernel
theorem dX7_deed_105 : decode cX7_deed 105 = .ok (.iconst 1, 1) := by decide +kernel
theorem dX7_deed_106 : decode cX7_deed 106 = .ok (.iconst 0, 1) := by decide +kernel
theorem dX7_deed_107 : decode cX7_deed 107 = .ok (.invokevirtual 135, 3) := by decide +kernel
theorem dX7_deed_110 : decode cX7_deed 110 = .ok (.ireturn, 1) := by decide +kernel
theorem dX7_deed_111 : decode cX7_deed 111 = .ok (.aload_n 0, 1) := by decide +kernel
theorem dX7_deed_112 : decode cX7_deed 112 = .ok (.iconst 2, 1) := by decide +kernel
theorem dX7_deed_113 : decode cX7_deed 113 = .ok (.iconst 0, 1) := by decide +kernel
theorem dX7_deed_114 : decode cX7_deed 114 = .ok (.invokevirtual 135, 3) := by decide +kernel
theorem dX7_deed_117 : decode cX7_deed 117 = .ok (.ireturn, 1) := by decide +kernel
theorem dX7_deed_118 : decode cX7_deed 118 = .ok (.aload_n 0, 1) := by decide +kernel
theorem dX7_deed_119 : decode cX7_deed 119 = .ok (.iconst 3, 1) := by decide +kernel
theorem dX7_deed_120 : decode cX7_deed 120 = .ok (.iconst 0, 1) := by decide +kernel
theorem dX7_deed_121 : decode cX7_deed 121 = .ok (.invokevirtual 135, 3) := by decide +kernel
theorem dX7_deed_124 : decode cX7_deed 124 = .ok (.ireturn, 1) := by decide +kernel
theorem dX7_deed_125 : decode cX7_deed 125 = .ok (.aload_n 0, 1) := by decide +kernel
theorem dX7_deed_126 : decode cX7_deed 126 = .ok (.iconst 4, 1) := by decide +kernel
theorem dX7_deed_127 : decode cX7_deed 127 = .ok (.iconst 0, 1) := by decide +kernel
theorem dX7_deed_128 : decode cX7_deed 128 = .ok (.invokevirtual 135, 3) := by decide +kernel
theorem dX7_deed_131 : decode cX7_deed 131 = .ok (.ireturn, 1) := by decide +kernel
theorem dX7_deed_132 : decode cX7_deed 132 = .ok (.bipush (-6), 2) := by decide +kernel
theorem dX7_deed_134 : decode cX7_deed 134 = .ok (.ireturn, 1) := by decide +kernel
theorem dX7_readOn_0 : decode cX7_readOn 0 = .ok (.iload_n 1, 1) := by decide +kernel
theorem dX7_readOn_1 : decode cX7_readOn 1 = .ok (.iconst 1, 1) := by decide +kernel
theorem dX7_readOn_2 : decode cX7_readOn 2 = .ok (.if_icmp .ne 9, 3) := by decide +kernel
theorem dX7_readOn_5 : decode cX7_readOn 5 = .ok (.aload_n 0, 1) := by decide +kernel
theorem dX7_readOn_6 : decode cX7_readOn 6 = .ok (.iload_n 2, 1) := by decide +kernel
theorem dX7_readOn_7 : decode cX7_readOn 7 = .ok (.invokevirtual 139, 3) := by decide +kernel
theorem dX7_readOn_10 : decode cX7_readOn 10 = .ok (.ireturn, 1) := by decide +kernel
theorem dX7_readOn_11 : decode cX7_readOn 11 = .ok (.iload_n 2, 1) := by decide +kernel
theorem dX7_readOn_12 : decode cX7_readOn 12 = .ok (.i2l, 1) := by decide +kernel
theorem dX7_readOn_13 : decode cX7_readOn 13 = .ok (.ldc2_w 142, 3) := by decide +kernel
theorem dX7_readOn_16 : decode cX7_readOn 16 = .ok (.ldc2_w 144, 3) := by decide +kernel
theorem dX7_readOn_19 : decode cX7_readOn 19 = .ok (.invokestatic 86, 3) := by decide +kernel
theorem dX7_readOn_22 : decode cX7_readOn 22 = .ok (.istore_n 3, 1) := by decide +kernel
theorem dX7_readOn_23 : decode cX7_readOn 23 = .ok (.aload_n 0, 1) := by decide +kernel
theorem dX7_readOn_24 : decode cX7_readOn 24 = .ok (.getfield 53, 3) := by decide +kernel
theorem dX7_readOn_27 : decode cX7_readOn 27 = .ok (.aload_n 0, 1) := by decide +kernel
theorem dX7_readOn_28 : decode cX7_readOn 28 = .ok (.getfield 132, 3) := by decide +kernel
theorem dX7_readOn_31 : decode cX7_readOn 31 = .ok (.iload_n 3, 1) := by decide +kernel
theorem dX7_readOn_32 : decode cX7_readOn 32 = .ok (.ifCond .eq 10, 3) := by decide +kernel
theorem dX7_readOn_35 : decode cX7_readOn 35 = .ok (.iload_n 2, 1) := by decide +kernel
theorem dX7_readOn_36 : decode cX7_readOn 36 = .ok (.bipush 65, 2) := by decide +kernel
theorem dX7_readOn_38 : decode cX7_readOn 38 = .ok (.isub, 1) := by decide +kernel
theorem dX7_readOn_39 : decode cX7_readOn 39 = .ok (.goto 4, 3) := by decide +kernel
theorem dX7_readOn_42 : decode cX7_readOn 42 = .ok (.iconst 0, 1) := by decide +kernel
theorem dX7_readOn_43 : decode cX7_readOn 43 = .ok (.iastore, 1) := by decide +kernel
theorem dX7_readOn_44 : decode cX7_readOn 44 = .ok (.iload_n 3, 1) := by decide +kernel
theorem dX7_readOn_45 : decode cX7_readOn 45 = .ok (.ifCond .eq 7, 3) := by decide +kernel
theorem dX7_readOn_48 : decode cX7_readOn 48 = .ok (.iconst 1, 1) := by decide +kernel
theorem dX7_readOn_49 : decode cX7_readOn 49 = .ok (.goto 20, 3) := by decide +kernel
theorem dX7_readOn_52 : decode cX7_readOn 52 = .ok (.iload_n 2, 1) := by decide +kernel
theorem dX7_readOn_53 : decode cX7_readOn 53 = .ok (.bipush 46, 2) := by decide +kernel
theorem dX7_readOn_55 : decode cX7_readOn 55 = .ok (.if_icmp .ne 12, 3) := by decide +kernel
theorem dX7_readOn_58 : decode cX7_readOn 58 = .ok (.aload_n 0, 1) := by decide +kernel
theorem dX7_readOn_59 : decode cX7_readOn 59 = .ok (.iconst 5, 1) := by decide +kernel
theorem dX7_readOn_60 : decode cX7_readOn 60 = .ok (.iconst 0, 1) := by decide +kernel
theorem dX7_readOn_61 : decode cX7_readOn 61 = .ok (.invokevirtual 135, 3) := by decide +kernel
theorem dX7_readOn_64 : decode cX7_readOn 64 = .ok (.goto 5, 3) := by decide +kernel
theorem dX7_readOn_67 : decode cX7_readOn 67 = .ok (.bipush (-6), 2) := by decide +kernel
theorem dX7_readOn_69 : decode cX7_readOn 69 = .ok (.ireturn, 1) := by decide +kernel
theorem dX7_fault_0 : decode cX7_fault 0 = .ok (.aload_n 0, 1) := by decide +kernel
theorem dX7_fault_1 : decode cX7_fault 1 = .ok (.iconst 0, 1) := by decide +kernel
theorem dX7_fault_2 : decode cX7_fault 2 = .ok (.putfield 132, 3) := by decide +kernel
theorem dX7_fault_5 : decode cX7_fault 5 = .ok (.iconst 0, 1) := by decide +kernel
theorem dX7_fault_6 : decode cX7_fault 6 = .ok (.istore_n 1, 1) := by decide +kernel
theorem dX7_fault_7 : decode cX7_fault 7 = .ok (.iconst 0, 1) := by decide +kernel
theorem dX7_fault_8 : decode cX7_fault 8 = .ok (.istore_n 2, 1) := by decide +kernel
theorem dX7_fault_9 : decode cX7_fault 9 = .ok (.iload_n 2, 1) := by decide +kernel
theorem dX7_fault_10 : decode cX7_fault 10 = .ok (.aload_n 0, 1) := by decide +kernel
theorem dX7_fault_11 : decode cX7_fault 11 = .ok (.getfield 129, 3) := by decide +kernel
theorem dX7_fault_14 : decode cX7_fault 14 = .ok (.if_icmp .ge 27, 3) := by decide +kernel
theorem dX7_fault_17 : decode cX7_fault 17 = .ok (.aload_n 0, 1) := by decide +kernel
theorem dX7_fault_18 : decode cX7_fault 18 = .ok (.iload_n 1, 1) := by decide +kernel
theorem dX7_fault_19 : decode cX7_fault 19 = .ok (.aload_n 0, 1) := by decide +kernel
theorem dX7_fault_20 : decode cX7_fault 20 = .ok (.getfield 47, 3) := by decide +kernel
theorem dX7_fault_23 : decode cX7_fault 23 = .ok (.iload_n 2, 1) := by decide +kernel
theorem dX7_fault_24 : decode cX7_fault 24 = .ok (.iaload, 1) := by decide +kernel
theorem dX7_fault_25 : decode cX7_fault 25 = .ok (.invokevirtual 146, 3) := by decide +kernel
theorem dX7_fault_28 : decode cX7_fault 28 = .ok (.istore_n 1, 1) := by decide +kernel
theorem dX7_fault_29 : decode cX7_fault 29 = .ok (.iload_n 1, 1) := by decide +kernel
theorem dX7_fault_30 : decode cX7_fault 30 = .ok (.ifCond .ge 5, 3) := by decide +kernel
theorem dX7_fault_33 : decode cX7_fault 33 = .ok (.iload_n 2, 1) := by decide +kernel
theorem dX7_fault_34 : decode cX7_fault 34 = .ok (.ireturn, 1) := by decide +kernel
theorem dX7_fault_35 : decode cX7_fault 35 = .ok (.iinc 2 1, 3) := by decide +kernel
theorem dX7_fault_38 : decode cX7_fault 38 = .ok (.goto (-29), 3) := by decide +kernel
theorem dX7_fault_41 : decode cX7_fault 41 = .ok (.iload_n 1, 1) := by decide +kernel
theorem dX7_fault_42 : decode cX7_fault 42 = .ok (.ifCond .ne 8, 3) := by decide +kernel
theorem dX7_fault_45 : decode cX7_fault 45 = .ok (.bipush (-6), 2) := by decide +kernel
theorem dX7_fault_47 : decode cX7_fault 47 = .ok (.goto 7, 3) := by decide +kernel
theorem dX7_fault_50 : decode cX7_fault 50 = .ok (.aload_n 0, 1) := by decide +kernel
theorem dX7_fault_51 : decode cX7_fault 51 = .ok (.getfield 129, 3) := by decide +kernel
theorem dX7_fault_54 : decode cX7_fault 54 = .ok (.ireturn, 1) := by decide +kernel
theorem dX7_eastBy_0 : decode cX7_eastBy 0 = .ok (.iload_n 0, 1) := by decide +kernel
theorem dX7_eastBy_1 : decode cX7_eastBy 1 = .ok (.iconst 1, 1) := by decide +kernel
theorem dX7_eastBy_2 : decode cX7_eastBy 2 = .ok (.if_icmp .ne 7, 3) := by decide +kernel
theorem dX7_eastBy_5 : decode cX7_eastBy 5 = .ok (.iconst 1, 1) := by decide +kernel
theorem dX7_eastBy_6 : decode cX7_eastBy 6 = .ok (.goto 13, 3) := by decide +kernel
theorem dX7_eastBy_9 : decode cX7_eastBy 9 = .ok (.iload_n 0, 1) := by decide +kernel
theorem dX7_eastBy_10 : decode cX7_eastBy 10 = .ok (.iconst 3, 1) := by decide +kernel
theorem dX7_eastBy_11 : decode cX7_eastBy 11 = .ok (.if_icmp .ne 7, 3) := by decide +kernel
theorem dX7_eastBy_14 : decode cX7_eastBy 14 = .ok (.iconst (-1), 1) := by decide +kernel
theorem dX7_eastBy_15 : decode cX7_eastBy 15 = .ok (.goto 4, 3) := by decide +kernel
theorem dX7_eastBy_18 : decode cX7_eastBy 18 = .ok (.iconst 0, 1) := by decide +kernel
theorem dX7_eastBy_19 : decode cX7_eastBy 19 = .ok (.ireturn, 1) := by decide +kernel
theorem dX7_northBy_0 : decode cX7_northBy 0 = .ok (.iload_n 0, 1) := by decide +kernel
theorem dX7_northBy_1 : decode cX7_northBy 1 = .ok (.ifCond .ne 7, 3) := by decide +kernel
theorem dX7_northBy_4 : decode cX7_northBy 4 = .ok (.iconst 1, 1) := by decide +kernel
theorem dX7_northBy_5 : decode cX7_northBy 5 = .ok (.goto 13, 3) := by decide +kernel
theorem dX7_northBy_8 : decode cX7_northBy 8 = .ok (.iload_n 0, 1) := by decide +kernel
theorem dX7_northBy_9 : decode cX7_northBy 9 = .ok (.iconst 2, 1) := by decide +kernel
theorem dX7_northBy_10 : decode cX7_northBy 10 = .ok (.if_icmp .ne 7, 3) := by decide +kernel
theorem dX7_northBy_13 : decode cX7_northBy 13 = .ok (.iconst (-1), 1) := by decide +kernel
theorem dX7_northBy_14 : decode cX7_northBy 14 = .ok (.goto 4, 3) := by decide +kernel
theorem dX7_northBy_17 : decode cX7_northBy 17 = .ok (.iconst 0, 1) := by decide +kernel
theorem dX7_northBy_18 : decode cX7_northBy 18 = .ok (.ireturn, 1) := by decide +kernel
theorem dX7_canGo_0 : decode cX7_canGo 0 = .ok (.aload_n 0, 1) := by decide +kernel
theorem dX7_canGo_1 : decode cX7_canGo 1 = .ok (.getfield 16, 3) := by decide +kernel
theorem dX7_canGo_4 : decode cX7_canGo 4 = .ok (.iload_n 1, 1) := by decide +kernel
theorem dX7_canGo_5 : decode cX7_canGo 5 = .ok (.iaload, 1) := by decide +kernel
theorem dX7_canGo_6 : decode cX7_canGo 6 = .ok (.bipush 8, 2) := by decide +kernel
theorem dX7_canGo_8 : decode cX7_canGo 8 = .ok (.irem, 1) := by decide +kernel
theorem dX7_canGo_9 : decode cX7_canGo 9 = .ok (.iload_n 2, 1) := by decide +kernel
theorem dX7_canGo_10 : decode cX7_canGo 10 = .ok (.invokestatic 149, 3) := by decide +kernel
theorem dX7_canGo_13 : decode cX7_canGo 13 = .ok (.iadd, 1) := by decide +kernel
theorem dX7_canGo_14 : decode cX7_canGo 14 = .ok (.i2l, 1) := by decide +kernel
theorem dX7_canGo_15 : decode cX7_canGo 15 = .ok (.lconst 0, 1) := by decide +kernel
theorem dX7_canGo_16 : decode cX7_canGo 16 = .ok (.ldc2_w 152, 3) := by decide +kernel
theorem dX7_canGo_19 : decode cX7_canGo 19 = .ok (.invokestatic 86, 3) := by decide +kernel
theorem dX7_canGo_22 : decode cX7_canGo 22 = .ok (.ifCond .eq 32, 3) := by decide +kernel
theorem dX7_canGo_25 : decode cX7_canGo 25 = .ok (.aload_n 0, 1) := by decide +kernel
theorem dX7_canGo_26 : decode cX7_canGo 26 = .ok (.getfield 16, 3) := by decide +kernel
theorem dX7_canGo_29 : decode cX7_canGo 29 = .ok (.iload_n 1, 1) := by decide +kernel
theorem dX7_canGo_30 : decode cX7_canGo 30 = .ok (.iaload, 1) := by decide +kernel
theorem dX7_canGo_31 : decode cX7_canGo 31 = .ok (.bipush 8, 2) := by decide +kernel
theorem dX7_canGo_33 : decode cX7_canGo 33 = .ok (.idiv, 1) := by decide +kernel
theorem dX7_canGo_34 : decode cX7_canGo 34 = .ok (.iload_n 2, 1) := by decide +kernel
theorem dX7_canGo_35 : decode cX7_canGo 35 = .ok (.invokestatic 154, 3) := by decide +kernel
theorem dX7_canGo_38 : decode cX7_canGo 38 = .ok (.iadd, 1) := by decide +kernel
theorem dX7_canGo_39 : decode cX7_canGo 39 = .ok (.i2l, 1) := by decide +kernel
theorem dX7_canGo_40 : decode cX7_canGo 40 = .ok (.lconst 0, 1) := by decide +kernel
theorem dX7_canGo_41 : decode cX7_canGo 41 = .ok (.ldc2_w 152, 3) := by decide +kernel
theorem dX7_canGo_44 : decode cX7_canGo 44 = .ok (.invokestatic 86, 3) := by decide +kernel
theorem dX7_canGo_47 : decode cX7_canGo 47 = .ok (.ifCond .eq 7, 3) := by decide +kernel
theorem dX7_canGo_50 : decode cX7_canGo 50 = .ok (.iconst 1, 1) := by decide +kernel
theorem dX7_canGo_51 : decode cX7_canGo 51 = .ok (.goto 4, 3) := by decide +kernel
theorem dX7_canGo_54 : decode cX7_canGo 54 = .ok (.iconst 0, 1) := by decide +kernel
theorem dX7_canGo_55 : decode cX7_canGo 55 = .ok (.ireturn, 1) := by decide +kernel
theorem dX7_whyNot_0 : decode cX7_whyNot 0 = .ok (.iload_n 1, 1) := by decide +kernel
theorem dX7_whyNot_1 : decode cX7_whyNot 1 = .ok (.iconst 5, 1) := by decide +kernel
theorem dX7_whyNot_2 : decode cX7_whyNot 2 = .ok (.if_icmp .ne 5, 3) := by decide +kernel
theorem dX7_whyNot_5 : decode cX7_whyNot 5 = .ok (.iconst 0, 1) := by decide +kernel
theorem dX7_whyNot_6 : decode cX7_whyNot 6 = .ok (.ireturn, 1) := by decide +kernel
theorem dX7_whyNot_7 : decode cX7_whyNot 7 = .ok (.aload_n 0, 1) := by decide +kernel
theorem dX7_whyNot_8 : decode cX7_whyNot 8 = .ok (.iload_n 2, 1) := by decide +kernel
theorem dX7_whyNot_9 : decode cX7_whyNot 9 = .ok (.invokevirtual 106, 3) := by decide +kernel
theorem dX7_whyNot_12 : decode cX7_whyNot 12 = .ok (.ifCond .ne 5, 3) := by decide +kernel
theorem dX7_whyNot_15 : decode cX7_whyNot 15 = .ok (.iconst 1, 1) := by decide +kernel
theorem dX7_whyNot_16 : decode cX7_whyNot 16 = .ok (.ireturn, 1) := by decide +kernel
theorem dX7_whyNot_17 : decode cX7_whyNot 17 = .ok (.iload_n 1, 1) := by decide +kernel
theorem dX7_whyNot_18 : decode cX7_whyNot 18 = .ok (.tableswitch 81 0 2 #[26, 41, 61], 26) := by decide +kernel
theorem dX7_whyNot_44 : decode cX7_whyNot 44 = .ok (.aload_n 0, 1) := by decide +kernel
theorem dX7_whyNot_45 : decode cX7_whyNot 45 = .ok (.iload_n 2, 1) := by decide +kernel
theorem dX7_whyNot_46 : decode cX7_whyNot 46 = .ok (.iload_n 3, 1) := by decide +kernel
theorem dX7_whyNot_47 : decode cX7_whyNot 47 = .ok (.invokevirtual 157, 3) := by decide +kernel
theorem dX7_whyNot_50 : decode cX7_whyNot 50 = .ok (.ifCond .eq 7, 3) := by decide +kernel
theorem dX7_whyNot_53 : decode cX7_whyNot 53 = .ok (.iconst 0, 1) := by decide +kernel
theorem dX7_whyNot_54 : decode cX7_whyNot 54 = .ok (.goto 4, 3) := by decide +kernel
theorem dX7_whyNot_57 : decode cX7_whyNot 57 = .ok (.iconst 2, 1) := by decide +kernel
theorem dX7_whyNot_58 : decode cX7_whyNot 58 = .ok (.ireturn, 1) := by decide +kernel
theorem dX7_whyNot_59 : decode cX7_whyNot 59 = .ok (.aload_n 0, 1) := by decide +kernel
theorem dX7_whyNot_60 : decode cX7_whyNot 60 = .ok (.iload_n 2, 1) := by decide +kernel
theorem dX7_whyNot_61 : decode cX7_whyNot 61 = .ok (.aload_n 0, 1) := by decide +kernel
theorem dX7_whyNot_62 : decode cX7_whyNot 62 = .ok (.getfield 16, 3) := by decide +kernel
theorem dX7_whyNot_65 : decode cX7_whyNot 65 = .ok (.iload_n 2, 1) := by decide +kernel
theorem dX7_whyNot_66 : decode cX7_whyNot 66 = .ok (.iaload, 1) := by decide +kernel
theorem dX7_whyNot_67 : decode cX7_whyNot 67 = .ok (.invokevirtual 114, 3) := by decide +kernel
theorem dX7_whyNot_70 : decode cX7_whyNot 70 = .ok (.ifCond .eq 7, 3) := by decide +kernel
theorem dX7_whyNot_73 : decode cX7_whyNot 73 = .ok (.iconst 3, 1) := by decide +kernel
theorem dX7_whyNot_74 : decode cX7_whyNot 74 = .ok (.goto 4, 3) := by decide +kernel
theorem dX7_whyNot_77 : decode cX7_whyNot 77 = .ok (.iconst 0, 1) := by decide +kernel
theorem dX7_whyNot_78 : decode cX7_whyNot 78 = .ok (.ireturn, 1) := by decide +kernel
theorem dX7_whyNot_79 : decode cX7_whyNot 79 = .ok (.aload_n 0, 1) := by decide +kernel
theorem dX7_whyNot_80 : decode cX7_whyNot 80 = .ok (.getfield 13, 3) := by decide +kernel
theorem dX7_whyNot_83 : decode cX7_whyNot 83 = .ok (.aload_n 0, 1) := by decide +kernel
theorem dX7_whyNot_84 : decode cX7_whyNot 84 = .ok (.getfield 16, 3) := by decide +kernel
theorem dX7_whyNot_87 : decode cX7_whyNot 87 = .ok (.iload_n 2, 1) := by decide +kernel
theorem dX7_whyNot_88 : decode cX7_whyNot 88 = .ok (.iaload, 1) := by decide +kernel
theorem dX7_whyNot_89 : decode cX7_whyNot 89 = .ok (.iaload, 1) := by decide +kernel
theorem dX7_whyNot_90 : decode cX7_whyNot 90 = .ok (.ifCond .lt 7, 3) := by decide +kernel
theorem dX7_whyNot_93 : decode cX7_whyNot 93 = .ok (.iconst 4, 1) := by decide +kernel
theorem dX7_whyNot_94 : decode cX7_whyNot 94 = .ok (.goto 4, 3) := by decide +kernel
theorem dX7_whyNot_97 : decode cX7_whyNot 97 = .ok (.iconst 0, 1) := by decide +kernel
theorem dX7_whyNot_98 : decode cX7_whyNot 98 = .ok (.ireturn, 1) := by decide +kernel
theorem dX7_whyNot_99 : decode cX7_whyNot 99 = .ok (.iconst 0, 1) := by decide +kernel
theorem dX7_whyNot_100 : decode cX7_whyNot 100 = .ok (.ireturn, 1) := by decide +kernel
theorem dX7_claimHere_0 : decode cX7_claimHere 0 = .ok (.aload_n 0, 1) := by decide +kernel
theorem dX7_claimHere_1 : decode cX7_claimHere 1 = .ok (.getfield 16, 3) := by decide +kernel
theorem dX7_claimHere_4 : decode cX7_claimHere 4 = .ok (.iload_n 1, 1) := by decide +kernel
theorem dX7_claimHere_5 : decode cX7_claimHere 5 = .ok (.iaload, 1) := by decide +kernel
theorem dX7_claimHere_6 : decode cX7_claimHere 6 = .ok (.istore_n 2, 1) := by decide +kernel
theorem dX7_claimHere_7 : decode cX7_claimHere 7 = .ok (.aload_n 0, 1) := by decide +kernel
theorem dX7_claimHere_8 : decode cX7_claimHere 8 = .ok (.getfield 13, 3) := by decide +kernel
theorem dX7_claimHere_11 : decode cX7_claimHere 11 = .ok (.iload_n 2, 1) := by decide +kernel
theorem dX7_claimHere_12 : decode cX7_claimHere 12 = .ok (.iload_n 1, 1) := by decide +kernel
theorem dX7_claimHere_13 : decode cX7_claimHere 13 = .ok (.iastore, 1) := by decide +kernel
theorem dX7_claimHere_14 : decode cX7_claimHere 14 = .ok (.aload_n 0, 1) := by decide +kernel
theorem dX7_claimHere_15 : decode cX7_claimHere 15 = .ok (.getfield 7, 3) := by decide +kernel
theorem dX7_claimHere_18 : decode cX7_claimHere 18 = .ok (.iload_n 2, 1) := by decide +kernel
theorem dX7_claimHere_19 : decode cX7_claimHere 19 = .ok (.iaload, 1) := by decide +kernel
theorem dX7_claimHere_20 : decode cX7_claimHere 20 = .ok (.ifCond .ne 35, 3) := by decide +kernel
theorem dX7_claimHere_23 : decode cX7_claimHere 23 = .ok (.aload_n 0, 1) := by decide +kernel
theorem dX7_claimHere_24 : decode cX7_claimHere 24 = .ok (.aload_n 0, 1) := by decide +kernel
theorem dX7_claimHere_25 : decode cX7_claimHere 25 = .ok (.getfield 160, 3) := by decide +kernel
theorem dX7_claimHere_28 : decode cX7_claimHere 28 = .ok (.ifCond .ge 10, 3) := by decide +kernel
theorem dX7_claimHere_31 : decode cX7_claimHere 31 = .ok (.aload_n 0, 1) := by decide +kernel
theorem dX7_claimHere_32 : decode cX7_claimHere 32 = .ok (.getfield 163, 3) := by decide +kernel
theorem dX7_claimHere_35 : decode cX7_claimHere 35 = .ok (.goto 7, 3) := by decide +kernel
theorem dX7_claimHere_38 : decode cX7_claimHere 38 = .ok (.aload_n 0, 1) := by decide +kernel
theorem dX7_claimHere_39 : decode cX7_claimHere 39 = .ok (.getfield 160, 3) := by decide +kernel
theorem dX7_claimHere_42 : decode cX7_claimHere 42 = .ok (.putfield 160, 3) := by decide +kernel
theorem dX7_claimHere_45 : decode cX7_claimHere 45 = .ok (.aload_n 0, 1) := by decide +kernel
theorem dX7_claimHere_46 : decode cX7_claimHere 46 = .ok (.dup, 1) := by decide +kernel
theorem dX7_claimHere_47 : decode cX7_claimHere 47 = .ok (.getfield 166, 3) := by decide +kernel
theorem dX7_claimHere_50 : decode cX7_claimHere 50 = .ok (.iconst 1, 1) := by decide +kernel
theorem dX7_claimHere_51 : decode cX7_claimHere 51 = .ok (.iadd, 1) := by decide +kernel
theorem dX7_claimHere_52 : decode cX7_claimHere 52 = .ok (.putfield 166, 3) := by decide +kernel
theorem dX7_claimHere_55 : decode cX7_claimHere 55 = .ok (.return_, 1) := by decide +kernel
theorem dX7_passNight_0 : decode cX7_passNight 0 = .ok (.iconst 0, 1) := by decide +kernel
theorem dX7_passNight_1 : decode cX7_passNight 1 = .ok (.istore_n 1, 1) := by decide +kernel
theorem dX7_passNight_2 : decode cX7_passNight 2 = .ok (.iload_n 1, 1) := by decide +kernel
theorem dX7_passNight_3 : decode cX7_passNight 3 = .ok (.bipush 6, 2) := by decide +kernel
theorem dX7_passNight_5 : decode cX7_passNight 5 = .ok (.if_icmp .ge 112, 3) := by decide +kernel
theorem dX7_passNight_8 : decode cX7_passNight 8 = .ok (.iconst 0, 1) := by decide +kernel
theorem dX7_passNight_9 : decode cX7_passNight 9 = .ok (.istore_n 2, 1) := by decide +kernel
theorem dX7_passNight_10 : decode cX7_passNight 10 = .ok (.iconst 0, 1) := by decide +kernel
theorem dX7_passNight_11 : decode cX7_passNight 11 = .ok (.istore_n 3, 1) := by decide +kernel
theorem dX7_passNight_12 : decode cX7_passNight 12 = .ok (.iload_n 3, 1) := by decide +kernel
theorem dX7_passNight_13 : decode cX7_passNight 13 = .ok (.bipush 64, 2) := by decide +kernel
theorem dX7_passNight_15 : decode cX7_passNight 15 = .ok (.if_icmp .ge 49, 3) := by decide +kernel
theorem dX7_passNight_18 : decode cX7_passNight 18 = .ok (.iload_n 2, 1) := by decide +kernel
theorem dX7_passNight_19 : decode cX7_passNight 19 = .ok (.aload_n 0, 1) := by decide +kernel
theorem dX7_passNight_20 : decode cX7_passNight 20 = .ok (.iload_n 1, 1) := by decide +kernel
theorem dX7_passNight_21 : decode cX7_passNight 21 = .ok (.invokevirtual 106, 3) := by decide +kernel
theorem dX7_passNight_24 : decode cX7_passNight 24 = .ok (.ifCond .eq 31, 3) := by decide +kernel
theorem dX7_passNight_27 : decode cX7_passNight 27 = .ok (.aload_n 0, 1) := by decide +kernel
theorem dX7_passNight_28 : decode cX7_passNight 28 = .ok (.getfield 13, 3) := by decide +kernel
theorem dX7_passNight_31 : decode cX7_passNight 31 = .ok (.iload_n 3, 1) := by decide +kernel
theorem dX7_passNight_32 : decode cX7_passNight 32 = .ok (.iaload, 1) := by decide +kernel
theorem dX7_passNight_33 : decode cX7_passNight 33 = .ok (.iload_n 1, 1) := by decide +kernel
theorem dX7_passNight_34 : decode cX7_passNight 34 = .ok (.if_icmp .ne 21, 3) := by decide +kernel
theorem dX7_passNight_37 : decode cX7_passNight 37 = .ok (.aload_n 0, 1) := by decide +kernel
theorem dX7_passNight_38 : decode cX7_passNight 38 = .ok (.iload_n 1, 1) := by decide +kernel
theorem dX7_passNight_39 : decode cX7_passNight 39 = .ok (.iload_n 3, 1) := by decide +kernel
theorem dX7_passNight_40 : decode cX7_passNight 40 = .ok (.invokevirtual 114, 3) := by decide +kernel
theorem dX7_passNight_43 : decode cX7_passNight 43 = .ok (.ifCond .eq 12, 3) := by decide +kernel
theorem dX7_passNight_46 : decode cX7_passNight 46 = .ok (.aload_n 0, 1) := by decide +kernel
theorem dX7_passNight_47 : decode cX7_passNight 47 = .ok (.getfield 7, 3) := by decide +kernel
theorem dX7_passNight_50 : decode cX7_passNight 50 = .ok (.iload_n 3, 1) := by decide +kernel
theorem dX7_passNight_51 : decode cX7_passNight 51 = .ok (.iaload, 1) := by decide +kernel
theorem dX7_passNight_52 : decode cX7_passNight 52 = .ok (.goto 4, 3) := by decide +kernel
theorem dX7_passNight_55 : decode cX7_passNight 55 = .ok (.iconst 0, 1) := by decide +kernel
theorem dX7_passNight_56 : decode cX7_passNight 56 = .ok (.iadd, 1) := by decide +kernel
theorem dX7_passNight_57 : decode cX7_passNight 57 = .ok (.istore_n 2, 1) := by decide +kernel
theorem dX7_passNight_58 : decode cX7_passNight 58 = .ok (.iinc 3 1, 3) := by decide +kernel
theorem dX7_passNight_61 : decode cX7_passNight 61 = .ok (.goto (-49), 3) := by decide +kernel
theorem dX7_passNight_64 : decode cX7_passNight 64 = .ok (.aload_n 0, 1) := by decide +kernel
theorem dX7_passNight_65 : decode cX7_passNight 65 = .ok (.dup, 1) := by decide +kernel
theorem dX7_passNight_66 : decode cX7_passNight 66 = .ok (.getfield 169, 3) := by decide +kernel
theorem dX7_passNight_69 : decode cX7_passNight 69 = .ok (.iload_n 2, 1) := by decide +kernel
theorem dX7_passNight_70 : decode cX7_passNight 70 = .ok (.bipush 10, 2) := by decide +kernel
theorem dX7_passNight_72 : decode cX7_passNight 72 = .ok (.idiv, 1) := by decide +kernel
theorem dX7_passNight_73 : decode cX7_passNight 73 = .ok (.iadd, 1) := by decide +kernel
theorem dX7_passNight_74 : decode cX7_passNight 74 = .ok (.putfield 169, 3) := by decide +kernel
theorem dX7_passNight_77 : decode cX7_passNight 77 = .ok (.aload_n 0, 1) := by decide +kernel
theorem dX7_passNight_78 : decode cX7_passNight 78 = .ok (.getfield 29, 3) := by decide +kernel
theorem dX7_passNight_81 : decode cX7_passNight 81 = .ok (.iload_n 1, 1) := by decide +kernel
theorem dX7_passNight_82 : decode cX7_passNight 82 = .ok (.iaload, 1) := by decide +kernel
theorem dX7_passNight_83 : decode cX7_passNight 83 = .ok (.iload_n 2, 1) := by decide +kernel
theorem dX7_passNight_84 : decode cX7_passNight 84 = .ok (.iadd, 1) := by decide +kernel
theorem dX7_passNight_85 : decode cX7_passNight 85 = .ok (.iload_n 2, 1) := by decide +kernel
theorem dX7_passNight_86 : decode cX7_passNight 86 = .ok (.bipush 10, 2) := by decide +kernel
theorem dX7_passNight_88 : decode cX7_passNight 88 = .ok (.idiv, 1) := by decide +kernel
theorem dX7_passNight_89 : decode cX7_passNight 89 = .ok (.isub, 1) := by decide +kernel
theorem dX7_passNight_90 : decode cX7_passNight 90 = .ok (.istore_n 3, 1) := by decide +kernel
theorem dX7_passNight_91 : decode cX7_passNight 91 = .ok (.aload_n 0, 1) := by decide +kernel
theorem dX7_passNight_92 : decode cX7_passNight 92 = .ok (.getfield 29, 3) := by decide +kernel
theorem dX7_passNight_95 : decode cX7_passNight 95 = .ok (.iload_n 1, 1) := by decide +kernel
theorem dX7_passNight_96 : decode cX7_passNight 96 = .ok (.iload_n 3, 1) := by decide +kernel
theorem dX7_passNight_97 : decode cX7_passNight 97 = .ok (.sipush 999, 3) := by decide +kernel
theorem dX7_passNight_100 : decode cX7_passNight 100 = .ok (.if_icmp .le 9, 3) := by decide +kernel
theorem dX7_passNight_103 : decode cX7_passNight 103 = .ok (.sipush 999, 3) := by decide +kernel
theorem dX7_passNight_106 : decode cX7_passNight 106 = .ok (.goto 4, 3) := by decide +kernel
theorem dX7_passNight_109 : decode cX7_passNight 109 = .ok (.iload_n 3, 1) := by decide +kernel
theorem dX7_passNight_110 : decode cX7_passNight 110 = .ok (.iastore, 1) := by decide +kernel
theorem dX7_passNight_111 : decode cX7_passNight 111 = .ok (.iinc 1 1, 3) := by decide +kernel
theorem dX7_passNight_114 : decode cX7_passNight 114 = .ok (.goto (-112), 3) := by decide +kernel
theorem dX7_passNight_117 : decode cX7_passNight 117 = .ok (.return_, 1) := by decide +kernel
theorem dX7_happen_0 : decode cX7_happen 0 = .ok (.iload_n 1, 1) := by decide +kernel
theorem dX7_happen_1 : decode cX7_happen 1 = .ok (.tableswitch 121 0 4 #[35, 59, 79, 87, 104], 35) := by decide +kernel
theorem dX7_happen_36 : decode cX7_happen 36 = .ok (.aload_n 0, 1) := by decide +kernel
theorem dX7_happen_37 : decode cX7_happen 37 = .ok (.getfield 16, 3) := by decide +kernel
theorem dX7_happen_40 : decode cX7_happen 40 = .ok (.iload_n 2, 1) := by decide +kernel
theorem dX7_happen_41 : decode cX7_happen 41 = .ok (.dup2, 1) := by decide +kernel
theorem dX7_happen_42 : decode cX7_happen 42 = .ok (.iaload, 1) := by decide +kernel
theorem dX7_happen_43 : decode cX7_happen 43 = .ok (.bipush 8, 2) := by decide +kernel
theorem dX7_happen_45 : decode cX7_happen 45 = .ok (.iload_n 3, 1) := by decide +kernel
theorem dX7_happen_46 : decode cX7_happen 46 = .ok (.invokestatic 154, 3) := by decide +kernel
theorem dX7_happen_49 : decode cX7_happen 49 = .ok (.imul, 1) := by decide +kernel
theorem dX7_happen_50 : decode cX7_happen 50 = .ok (.iload_n 3, 1) := by decide +kernel
theorem dX7_happen_51 : decode cX7_happen 51 = .ok (.invokestatic 149, 3) := by decide +kernel
theorem dX7_happen_54 : decode cX7_happen 54 = .ok (.iadd, 1) := by decide +kernel
theorem dX7_happen_55 : decode cX7_happen 55 = .ok (.iadd, 1) := by decide +kernel
theorem dX7_happen_56 : decode cX7_happen 56 = .ok (.iastore, 1) := by decide +kernel
theorem dX7_happen_57 : decode cX7_happen 57 = .ok (.goto 69, 3) := by decide +kernel
theorem dX7_happen_60 : decode cX7_happen 60 = .ok (.aload_n 0, 1) := by decide +kernel
theorem dX7_happen_61 : decode cX7_happen 61 = .ok (.getfield 19, 3) := by decide +kernel
theorem dX7_happen_64 : decode cX7_happen 64 = .ok (.iload_n 2, 1) := by decide +kernel
theorem dX7_happen_65 : decode cX7_happen 65 = .ok (.dup2, 1) := by decide +kernel
theorem dX7_happen_66 : decode cX7_happen 66 = .ok (.laload, 1) := by decide +kernel
theorem dX7_happen_67 : decode cX7_happen 67 = .ok (.lconst 1, 1) := by decide +kernel
theorem dX7_happen_68 : decode cX7_happen 68 = .ok (.aload_n 0, 1) := by decide +kernel
theorem dX7_happen_69 : decode cX7_happen 69 = .ok (.getfield 16, 3) := by decide +kernel
theorem dX7_happen_72 : decode cX7_happen 72 = .ok (.iload_n 2, 1) := by decide +kernel
theorem dX7_happen_73 : decode cX7_happen 73 = .ok (.iaload, 1) := by decide +kernel
theorem dX7_happen_74 : decode cX7_happen 74 = .ok (.lshl, 1) := by decide +kernel
theorem dX7_happen_75 : decode cX7_happen 75 = .ok (.lor, 1) := by decide +kernel
theorem dX7_happen_76 : decode cX7_happen 76 = .ok (.lastore, 1) := by decide +kernel
theorem dX7_happen_77 : decode cX7_happen 77 = .ok (.goto 49, 3) := by decide +kernel
theorem dX7_happen_80 : decode cX7_happen 80 = .ok (.aload_n 0, 1) := by decide +kernel
theorem dX7_happen_81 : decode cX7_happen 81 = .ok (.iload_n 2, 1) := by decide +kernel
theorem dX7_happen_82 : decode cX7_happen 82 = .ok (.invokevirtual 172, 3) := by decide +kernel
theorem dX7_happen_85 : decode cX7_happen 85 = .ok (.goto 41, 3) := by decide +kernel
theorem dX7_happen_88 : decode cX7_happen 88 = .ok (.aload_n 0, 1) := by decide +kernel
theorem dX7_happen_89 : decode cX7_happen 89 = .ok (.getfield 23, 3) := by decide +kernel
theorem dX7_happen_92 : decode cX7_happen 92 = .ok (.iload_n 2, 1) := by decide +kernel
theorem dX7_happen_93 : decode cX7_happen 93 = .ok (.iconst 1, 1) := by decide +kernel
theorem dX7_happen_94 : decode cX7_happen 94 = .ok (.aload_n 0, 1) := by decide +kernel
theorem dX7_happen_95 : decode cX7_happen 95 = .ok (.getfield 23, 3) := by decide +kernel
theorem dX7_happen_98 : decode cX7_happen 98 = .ok (.iload_n 2, 1) := by decide +kernel
theorem dX7_happen_99 : decode cX7_happen 99 = .ok (.iaload, 1) := by decide +kernel
theorem dX7_happen_100 : decode cX7_happen 100 = .ok (.isub, 1) := by decide +kernel
theorem dX7_happen_101 : decode cX7_happen 101 = .ok (.iastore, 1) := by decide +kernel
theorem dX7_happen_102 : decode cX7_happen 102 = .ok (.goto 24, 3) := by decide +kernel
theorem dX7_happen_105 : decode cX7_happen 105 = .ok (.aload_n 0, 1) := by decide +kernel
theorem dX7_happen_106 : decode cX7_happen 106 = .ok (.getfield 26, 3) := by decide +kernel
theorem dX7_happen_109 : decode cX7_happen 109 = .ok (.iload_n 2, 1) := by decide +kernel
theorem dX7_happen_110 : decode cX7_happen 110 = .ok (.iconst 1, 1) := by decide +kernel
theorem dX7_happen_111 : decode cX7_happen 111 = .ok (.aload_n 0, 1) := by decide +kernel
theorem dX7_happen_112 : decode cX7_happen 112 = .ok (.getfield 26, 3) := by decide +kernel
theorem dX7_happen_115 : decode cX7_happen 115 = .ok (.iload_n 2, 1) := by decide +kernel
theorem dX7_happen_116 : decode cX7_happen 116 = .ok (.iaload, 1) := by decide +kernel
theorem dX7_happen_117 : decode cX7_happen 117 = .ok (.isub, 1) := by decide +kernel
theorem dX7_happen_118 : decode cX7_happen 118 = .ok (.iastore, 1) := by decide +kernel
theorem dX7_happen_119 : decode cX7_happen 119 = .ok (.goto 7, 3) := by decide +kernel
theorem dX7_happen_122 : decode cX7_happen 122 = .ok (.aload_n 0, 1) := by decide +kernel
theorem dX7_happen_123 : decode cX7_happen 123 = .ok (.invokevirtual 176, 3) := by decide +kernel
theorem dX7_happen_126 : decode cX7_happen 126 = .ok (.return_, 1) := by decide +kernel
theorem dX7_keepNow_0 : decode cX7_keepNow 0 = .ok (.iconst 0, 1) := by decide +kernel
theorem dX7_keepNow_1 : decode cX7_keepNow 1 = .ok (.istore_n 1, 1) := by decide +kernel
theorem dX7_keepNow_2 : decode cX7_keepNow 2 = .ok (.iload_n 1, 1) := by decide +kernel
theorem dX7_keepNow_3 : decode cX7_keepNow 3 = .ok (.bipush 6, 2) := by decide +kernel
theorem dX7_keepNow_5 : decode cX7_keepNow 5 = .ok (.if_icmp .ge 78, 3) := by decide +kernel
theorem dX7_keepNow_8 : decode cX7_keepNow 8 = .ok (.aload_n 0, 1) := by decide +kernel
theorem dX7_keepNow_9 : decode cX7_keepNow 9 = .ok (.getfield 59, 3) := by decide +kernel
theorem dX7_keepNow_12 : decode cX7_keepNow 12 = .ok (.iload_n 1, 1) := by decide +kernel
theorem dX7_keepNow_13 : decode cX7_keepNow 13 = .ok (.aload_n 0, 1) := by decide +kernel
theorem dX7_keepNow_14 : decode cX7_keepNow 14 = .ok (.getfield 16, 3) := by decide +kernel
theorem dX7_keepNow_17 : decode cX7_keepNow 17 = .ok (.iload_n 1, 1) := by decide +kernel
theorem dX7_keepNow_18 : decode cX7_keepNow 18 = .ok (.iaload, 1) := by decide +kernel
theorem dX7_keepNow_19 : decode cX7_keepNow 19 = .ok (.iastore, 1) := by decide +kernel
theorem dX7_keepNow_20 : decode cX7_keepNow 20 = .ok (.aload_n 0, 1) := by decide +kernel
theorem dX7_keepNow_21 : decode cX7_keepNow 21 = .ok (.getfield 59, 3) := by decide +kernel
theorem dX7_keepNow_24 : decode cX7_keepNow 24 = .ok (.bipush 6, 2) := by decide +kernel
theorem dX7_keepNow_26 : decode cX7_keepNow 26 = .ok (.iload_n 1, 1) := by decide +kernel
theorem dX7_keepNow_27 : decode cX7_keepNow 27 = .ok (.iadd, 1) := by decide +kernel
theorem dX7_keepNow_28 : decode cX7_keepNow 28 = .ok (.aload_n 0, 1) := by decide +kernel
theorem dX7_keepNow_29 : decode cX7_keepNow 29 = .ok (.getfield 23, 3) := by decide +kernel
theorem dX7_keepNow_32 : decode cX7_keepNow 32 = .ok (.iload_n 1, 1) := by decide +kernel
theorem dX7_keepNow_33 : decode cX7_keepNow 33 = .ok (.iaload, 1) := by decide +kernel
theorem dX7_keepNow_34 : decode cX7_keepNow 34 = .ok (.iastore, 1) := by decide +kernel
theorem dX7_keepNow_35 : decode cX7_keepNow 35 = .ok (.aload_n 0, 1) := by decide +kernel
theorem dX7_keepNow_36 : decode cX7_keepNow 36 = .ok (.getfield 59, 3) := by decide +kernel
theorem dX7_keepNow_39 : decode cX7_keepNow 39 = .ok (.bipush 12, 2) := by decide +kernel
theorem dX7_keepNow_41 : decode cX7_keepNow 41 = .ok (.iload_n 1, 1) := by decide +kernel
theorem dX7_keepNow_42 : decode cX7_keepNow 42 = .ok (.iadd, 1) := by decide +kernel
theorem dX7_keepNow_43 : decode cX7_keepNow 43 = .ok (.aload_n 0, 1) := by decide +kernel
theorem dX7_keepNow_44 : decode cX7_keepNow 44 = .ok (.getfield 26, 3) := by decide +kernel
theorem dX7_keepNow_47 : decode cX7_keepNow 47 = .ok (.iload_n 1, 1) := by decide +kernel
theorem dX7_keepNow_48 : decode cX7_keepNow 48 = .ok (.iaload, 1) := by decide +kernel
theorem dX7_keepNow_49 : decode cX7_keepNow 49 = .ok (.iastore, 1) := by decide +kernel
theorem dX7_keepNow_50 : decode cX7_keepNow 50 = .ok (.aload_n 0, 1) := by decide +kernel
theorem dX7_keepNow_51 : decode cX7_keepNow 51 = .ok (.getfield 59, 3) := by decide +kernel
theorem dX7_keepNow_54 : decode cX7_keepNow 54 = .ok (.bipush 18, 2) := by decide +kernel
theorem dX7_keepNow_56 : decode cX7_keepNow 56 = .ok (.iload_n 1, 1) := by decide +kernel
theorem dX7_keepNow_57 : decode cX7_keepNow 57 = .ok (.iadd, 1) := by decide +kernel
theorem dX7_keepNow_58 : decode cX7_keepNow 58 = .ok (.aload_n 0, 1) := by decide +kernel
theorem dX7_keepNow_59 : decode cX7_keepNow 59 = .ok (.getfield 29, 3) := by decide +kernel
theorem dX7_keepNow_62 : decode cX7_keepNow 62 = .ok (.iload_n 1, 1) := by decide +kernel
theorem dX7_keepNow_63 : decode cX7_keepNow 63 = .ok (.iaload, 1) := by decide +kernel
theorem dX7_keepNow_64 : decode cX7_keepNow 64 = .ok (.iastore, 1) := by decide +kernel
theorem dX7_keepNow_65 : decode cX7_keepNow 65 = .ok (.aload_n 0, 1) := by decide +kernel
theorem dX7_keepNow_66 : decode cX7_keepNow 66 = .ok (.getfield 62, 3) := by decide +kernel
theorem dX7_keepNow_69 : decode cX7_keepNow 69 = .ok (.iload_n 1, 1) := by decide +kernel
theorem dX7_keepNow_70 : decode cX7_keepNow 70 = .ok (.aload_n 0, 1) := by decide +kernel
theorem dX7_keepNow_71 : decode cX7_keepNow 71 = .ok (.getfield 19, 3) := by decide +kernel
theorem dX7_keepNow_74 : decode cX7_keepNow 74 = .ok (.iload_n 1, 1) := by decide +kernel
theorem dX7_keepNow_75 : decode cX7_keepNow 75 = .ok (.laload, 1) := by decide +kernel
theorem dX7_keepNow_76 : decode cX7_keepNow 76 = .ok (.lastore, 1) := by decide +kernel
theorem dX7_keepNow_77 : decode cX7_keepNow 77 = .ok (.iinc 1 1, 3) := by decide +kernel
theorem dX7_keepNow_80 : decode cX7_keepNow 80 = .ok (.goto (-78), 3) := by decide +kernel
theorem dX7_keepNow_83 : decode cX7_keepNow 83 = .ok (.iconst 0, 1) := by decide +kernel
theorem dX7_keepNow_84 : decode cX7_keepNow 84 = .ok (.istore_n 1, 1) := by decide +kernel
theorem dX7_keepNow_85 : decode cX7_keepNow 85 = .ok (.iload_n 1, 1) := by decide +kernel
theorem dX7_keepNow_86 : decode cX7_keepNow 86 = .ok (.bipush 64, 2) := by decide +kernel
theorem dX7_keepNow_88 : decode cX7_keepNow 88 = .ok (.if_icmp .ge 24, 3) := by decide +kernel
theorem dX7_keepNow_91 : decode cX7_keepNow 91 = .ok (.aload_n 0, 1) := by decide +kernel
theorem dX7_keepNow_92 : decode cX7_keepNow 92 = .ok (.getfield 59, 3) := by decide +kernel
theorem dX7_keepNow_95 : decode cX7_keepNow 95 = .ok (.bipush 24, 2) := by decide +kernel
theorem dX7_keepNow_97 : decode cX7_keepNow 97 = .ok (.iload_n 1, 1) := by decide +kernel
theorem dX7_keepNow_98 : decode cX7_keepNow 98 = .ok (.iadd, 1) := by decide +kernel
theorem dX7_keepNow_99 : decode cX7_keepNow 99 = .ok (.aload_n 0, 1) := by decide +kernel
theorem dX7_keepNow_100 : decode cX7_keepNow 100 = .ok (.getfield 13, 3) := by decide +kernel
theorem dX7_keepNow_103 : decode cX7_keepNow 103 = .ok (.iload_n 1, 1) := by decide +kernel
theorem dX7_keepNow_104 : decode cX7_keepNow 104 = .ok (.iaload, 1) := by decide +kernel
theorem dX7_keepNow_105 : decode cX7_keepNow 105 = .ok (.iastore, 1) := by decide +kernel
theorem dX7_keepNow_106 : decode cX7_keepNow 106 = .ok (.iinc 1 1, 3) := by decide +kernel
theorem dX7_keepNow_109 : decode cX7_keepNow 109 = .ok (.goto (-24), 3) := by decide +kernel
theorem dX7_keepNow_112 : decode cX7_keepNow 112 = .ok (.return_, 1) := by decide +kernel
theorem dX7_back_0 : decode cX7_back 0 = .ok (.iconst 0, 1) := by decide +kernel
theorem dX7_back_1 : decode cX7_back 1 = .ok (.istore_n 2, 1) := by decide +kernel
theorem dX7_back_2 : decode cX7_back 2 = .ok (.iload_n 2, 1) := by decide +kernel
theorem dX7_back_3 : decode cX7_back 3 = .ok (.bipush 6, 2) := by decide +kernel
theorem dX7_back_5 : decode cX7_back 5 = .ok (.if_icmp .ge 78, 3) := by decide +kernel
theorem dX7_back_8 : decode cX7_back 8 = .ok (.aload_n 0, 1) := by decide +kernel
theorem dX7_back_9 : decode cX7_back 9 = .ok (.getfield 16, 3) := by decide +kernel
theorem dX7_back_12 : decode cX7_back 12 = .ok (.iload_n 2, 1) := by decide +kernel
theorem dX7_back_13 : decode cX7_back 13 = .ok (.aload_n 0, 1) := by decide +kernel
theorem dX7_back_14 : decode cX7_back 14 = .ok (.getfield 59, 3) := by decide +kernel
theorem dX7_back_17 : decode cX7_back 17 = .ok (.iload_n 2, 1) := by decide +kernel
theorem dX7_back_18 : decode cX7_back 18 = .ok (.iaload, 1) := by decide +kernel
theorem dX7_back_19 : decode cX7_back 19 = .ok (.iastore, 1) := by decide +kernel
theorem dX7_back_20 : decode cX7_back 20 = .ok (.aload_n 0, 1) := by decide +kernel
theorem dX7_back_21 : decode cX7_back 21 = .ok (.getfield 23, 3) := by decide +kernel
theorem dX7_back_24 : decode cX7_back 24 = .ok (.iload_n 2, 1) := by decide +kernel
theorem dX7_back_25 : decode cX7_back 25 = .ok (.aload_n 0, 1) := by decide +kernel
theorem dX7_back_26 : decode cX7_back 26 = .ok (.getfield 59, 3) := by decide +kernel
theorem dX7_back_29 : decode cX7_back 29 = .ok (.bipush 6, 2) := by decide +kernel
theorem dX7_back_31 : decode cX7_back 31 = .ok (.iload_n 2, 1) := by decide +kernel
theorem dX7_back_32 : decode cX7_back 32 = .ok (.iadd, 1) := by decide +kernel
theorem dX7_back_33 : decode cX7_back 33 = .ok (.iaload, 1) := by decide +kernel
theorem dX7_back_34 : decode cX7_back 34 = .ok (.iastore, 1) := by decide +kernel
theorem dX7_back_35 : decode cX7_back 35 = .ok (.aload_n 0, 1) := by decide +kernel
theorem dX7_back_36 : decode cX7_back 36 = .ok (.getfield 26, 3) := by decide +kernel
theorem dX7_back_39 : decode cX7_back 39 = .ok (.iload_n 2, 1) := by decide +kernel
theorem dX7_back_40 : decode cX7_back 40 = .ok (.aload_n 0, 1) := by decide +kernel
theorem dX7_back_41 : decode cX7_back 41 = .ok (.getfield 59, 3) := by decide +kernel
theorem dX7_back_44 : decode cX7_back 44 = .ok (.bipush 12, 2) := by decide +kernel
theorem dX7_back_46 : decode cX7_back 46 = .ok (.iload_n 2, 1) := by decide +kernel
theorem dX7_back_47 : decode cX7_back 47 = .ok (.iadd, 1) := by decide +kernel
theorem dX7_back_48 : decode cX7_back 48 = .ok (.iaload, 1) := by decide +kernel
theorem dX7_back_49 : decode cX7_back 49 = .ok (.iastore, 1) := by decide +kernel
theorem dX7_back_50 : decode cX7_back 50 = .ok (.aload_n 0, 1) := by decide +kernel
theorem dX7_back_51 : decode cX7_back 51 = .ok (.getfield 29, 3) := by decide +kernel
theorem dX7_back_54 : decode cX7_back 54 = .ok (.iload_n 2, 1) := by decide +kernel
theorem dX7_back_55 : decode cX7_back 55 = .ok (.aload_n 0, 1) := by decide +kernel
theorem dX7_back_56 : decode cX7_back 56 = .ok (.getfield 59, 3) := by decide +kernel
theorem dX7_back_59 : decode cX7_back 59 = .ok (.bipush 18, 2) := by decide +kernel
theorem dX7_back_61 : decode cX7_back 61 = .ok (.iload_n 2, 1) := by decide +kernel
theorem dX7_back_62 : decode cX7_back 62 = .ok (.iadd, 1) := by decide +kernel
theorem dX7_back_63 : decode cX7_back 63 = .ok (.iaload, 1) := by decide +kernel
theorem dX7_back_64 : decode cX7_back 64 = .ok (.iastore, 1) := by decide +kernel
theorem dX7_back_65 : decode cX7_back 65 = .ok (.aload_n 0, 1) := by decide +kernel
theorem dX7_back_66 : decode cX7_back 66 = .ok (.getfield 19, 3) := by decide +kernel
theorem dX7_back_69 : decode cX7_back 69 = .ok (.iload_n 2, 1) := by decide +kernel
theorem dX7_back_70 : decode cX7_back 70 = .ok (.aload_n 0, 1) := by decide +kernel
theorem dX7_back_71 : decode cX7_back 71 = .ok (.getfield 62, 3) := by decide +kernel
theorem dX7_back_74 : decode cX7_back 74 = .ok (.iload_n 2, 1) := by decide +kernel
theorem dX7_back_75 : decode cX7_back 75 = .ok (.laload, 1) := by decide +kernel
theorem dX7_back_76 : decode cX7_back 76 = .ok (.lastore, 1) := by decide +kernel
theorem dX7_back_77 : decode cX7_back 77 = .ok (.iinc 2 1, 3) := by decide +kernel
theorem dX7_back_80 : decode cX7_back 80 = .ok (.goto (-78), 3) := by decide +kernel
theorem dX7_back_83 : decode cX7_back 83 = .ok (.iconst 0, 1) := by decide +kernel
theorem dX7_back_84 : decode cX7_back 84 = .ok (.istore_n 2, 1) := by decide +kernel
theorem dX7_back_85 : decode cX7_back 85 = .ok (.iload_n 2, 1) := by decide +kernel
theorem dX7_back_86 : decode cX7_back 86 = .ok (.bipush 64, 2) := by decide +kernel
theorem dX7_back_88 : decode cX7_back 88 = .ok (.if_icmp .ge 24, 3) := by decide +kernel
theorem dX7_back_91 : decode cX7_back 91 = .ok (.aload_n 0, 1) := by decide +kernel
theorem dX7_back_92 : decode cX7_back 92 = .ok (.getfield 13, 3) := by decide +kernel
theorem dX7_back_95 : decode cX7_back 95 = .ok (.iload_n 2, 1) := by decide +kernel
theorem dX7_back_96 : decode cX7_back 96 = .ok (.aload_n 0, 1) := by decide +kernel
theorem dX7_back_97 : decode cX7_back 97 = .ok (.getfield 59, 3) := by decide +kernel
theorem dX7_back_100 : decode cX7_back 100 = .ok (.bipush 24, 2) := by decide +kernel
theorem dX7_back_102 : decode cX7_back 102 = .ok (.iload_n 2, 1) := by decide +kernel
theorem dX7_back_103 : decode cX7_back 103 = .ok (.iadd, 1) := by decide +kernel
theorem dX7_back_104 : decode cX7_back 104 = .ok (.iaload, 1) := by decide +kernel
theorem dX7_back_105 : decode cX7_back 105 = .ok (.iastore, 1) := by decide +kernel
theorem dX7_back_106 : decode cX7_back 106 = .ok (.iinc 2 1, 3) := by decide +kernel
theorem dX7_back_109 : decode cX7_back 109 = .ok (.goto (-24), 3) := by decide +kernel
theorem dX7_back_112 : decode cX7_back 112 = .ok (.iload_n 1, 1) := by decide +kernel
theorem dX7_back_113 : decode cX7_back 113 = .ok (.ireturn, 1) := by decide +kernel
theorem dX7_goWeeks_0 : decode cX7_goWeeks 0 = .ok (.aload_n 0, 1) := by decide +kernel
theorem dX7_goWeeks_1 : decode cX7_goWeeks 1 = .ok (.bipush (-6), 2) := by decide +kernel
theorem dX7_goWeeks_3 : decode cX7_goWeeks 3 = .ok (.putfield 179, 3) := by decide +kernel
theorem dX7_goWeeks_6 : decode cX7_goWeeks 6 = .ok (.aload_n 0, 1) := by decide +kernel
theorem dX7_goWeeks_7 : decode cX7_goWeeks 7 = .ok (.bipush (-6), 2) := by decide +kernel
theorem dX7_goWeeks_9 : decode cX7_goWeeks 9 = .ok (.putfield 182, 3) := by decide +kernel
theorem dX7_goWeeks_12 : decode cX7_goWeeks 12 = .ok (.aload_n 0, 1) := by decide +kernel
theorem dX7_goWeeks_13 : decode cX7_goWeeks 13 = .ok (.iconst 0, 1) := by decide +kernel
theorem dX7_goWeeks_14 : decode cX7_goWeeks 14 = .ok (.putfield 169, 3) := by decide +kernel
theorem dX7_goWeeks_17 : decode cX7_goWeeks 17 = .ok (.aload_n 0, 1) := by decide +kernel
theorem dX7_goWeeks_18 : decode cX7_goWeeks 18 = .ok (.bipush (-6), 2) := by decide +kernel
theorem dX7_goWeeks_20 : decode cX7_goWeeks 20 = .ok (.putfield 160, 3) := by decide +kernel
theorem dX7_goWeeks_23 : decode cX7_goWeeks 23 = .ok (.aload_n 0, 1) := by decide +kernel
theorem dX7_goWeeks_24 : decode cX7_goWeeks 24 = .ok (.iconst 0, 1) := by decide +kernel
theorem dX7_goWeeks_25 : decode cX7_goWeeks 25 = .ok (.putfield 166, 3) := by decide +kernel
theorem dX7_goWeeks_28 : decode cX7_goWeeks 28 = .ok (.iconst 0, 1) := by decide +kernel
theorem dX7_goWeeks_29 : decode cX7_goWeeks 29 = .ok (.istore_n 1, 1) := by decide +kernel
theorem dX7_goWeeks_30 : decode cX7_goWeeks 30 = .ok (.iload_n 1, 1) := by decide +kernel
theorem dX7_goWeeks_31 : decode cX7_goWeeks 31 = .ok (.aload_n 0, 1) := by decide +kernel
theorem dX7_goWeeks_32 : decode cX7_goWeeks 32 = .ok (.getfield 132, 3) := by decide +kernel
theorem dX7_goWeeks_35 : decode cX7_goWeeks 35 = .ok (.if_icmp .ge 98, 3) := by decide +kernel
theorem dX7_goWeeks_38 : decode cX7_goWeeks 38 = .ok (.aload_n 0, 1) := by decide +kernel
theorem dX7_goWeeks_39 : decode cX7_goWeeks 39 = .ok (.getfield 179, 3) := by decide +kernel
theorem dX7_goWeeks_42 : decode cX7_goWeeks 42 = .ok (.ifCond .ge 91, 3) := by decide +kernel
theorem dX7_goWeeks_45 : decode cX7_goWeeks 45 = .ok (.aload_n 0, 1) := by decide +kernel
theorem dX7_goWeeks_46 : decode cX7_goWeeks 46 = .ok (.iload_n 1, 1) := by decide +kernel
theorem dX7_goWeeks_47 : decode cX7_goWeeks 47 = .ok (.putfield 163, 3) := by decide +kernel
theorem dX7_goWeeks_50 : decode cX7_goWeeks 50 = .ok (.aload_n 0, 1) := by decide +kernel
theorem dX7_goWeeks_51 : decode cX7_goWeeks 51 = .ok (.aload_n 0, 1) := by decide +kernel
theorem dX7_goWeeks_52 : decode cX7_goWeeks 52 = .ok (.getfield 50, 3) := by decide +kernel
theorem dX7_goWeeks_55 : decode cX7_goWeeks 55 = .ok (.iload_n 1, 1) := by decide +kernel
theorem dX7_goWeeks_56 : decode cX7_goWeeks 56 = .ok (.iaload, 1) := by decide +kernel
theorem dX7_goWeeks_57 : decode cX7_goWeeks 57 = .ok (.aload_n 0, 1) := by decide +kernel
theorem dX7_goWeeks_58 : decode cX7_goWeeks 58 = .ok (.getfield 53, 3) := by decide +kernel
theorem dX7_goWeeks_61 : decode cX7_goWeeks 61 = .ok (.iload_n 1, 1) := by decide +kernel
theorem dX7_goWeeks_62 : decode cX7_goWeeks 62 = .ok (.iaload, 1) := by decide +kernel
theorem dX7_goWeeks_63 : decode cX7_goWeeks 63 = .ok (.aload_n 0, 1) := by decide +kernel
theorem dX7_goWeeks_64 : decode cX7_goWeeks 64 = .ok (.getfield 56, 3) := by decide +kernel
theorem dX7_goWeeks_67 : decode cX7_goWeeks 67 = .ok (.iload_n 1, 1) := by decide +kernel
theorem dX7_goWeeks_68 : decode cX7_goWeeks 68 = .ok (.iaload, 1) := by decide +kernel
theorem dX7_goWeeks_69 : decode cX7_goWeeks 69 = .ok (.invokevirtual 185, 3) := by decide +kernel
theorem dX7_goWeeks_72 : decode cX7_goWeeks 72 = .ok (.istore_n 2, 1) := by decide +kernel
theorem dX7_goWeeks_73 : decode cX7_goWeeks 73 = .ok (.aload_n 0, 1) := by decide +kernel
theorem dX7_goWeeks_74 : decode cX7_goWeeks 74 = .ok (.iload_n 2, 1) := by decide +kernel
theorem dX7_goWeeks_75 : decode cX7_goWeeks 75 = .ok (.ifCond .le 7, 3) := by decide +kernel
theorem dX7_goWeeks_78 : decode cX7_goWeeks 78 = .ok (.iload_n 1, 1) := by decide +kernel
theorem dX7_goWeeks_79 : decode cX7_goWeeks 79 = .ok (.goto 5, 3) := by decide +kernel
theorem dX7_goWeeks_82 : decode cX7_goWeeks 82 = .ok (.bipush (-6), 2) := by decide +kernel
theorem dX7_goWeeks_84 : decode cX7_goWeeks 84 = .ok (.putfield 179, 3) := by decide +kernel
theorem dX7_goWeeks_87 : decode cX7_goWeeks 87 = .ok (.aload_n 0, 1) := by decide +kernel
theorem dX7_goWeeks_88 : decode cX7_goWeeks 88 = .ok (.iload_n 2, 1) := by decide +kernel
theorem dX7_goWeeks_89 : decode cX7_goWeeks 89 = .ok (.ifCond .le 7, 3) := by decide +kernel
theorem dX7_goWeeks_92 : decode cX7_goWeeks 92 = .ok (.iload_n 2, 1) := by decide +kernel
theorem dX7_goWeeks_93 : decode cX7_goWeeks 93 = .ok (.goto 5, 3) := by decide +kernel
theorem dX7_goWeeks_96 : decode cX7_goWeeks 96 = .ok (.bipush (-6), 2) := by decide +kernel
theorem dX7_goWeeks_98 : decode cX7_goWeeks 98 = .ok (.putfield 182, 3) := by decide +kernel
theorem dX7_goWeeks_101 : decode cX7_goWeeks 101 = .ok (.iload_n 2, 1) := by decide +kernel
theorem dX7_goWeeks_102 : decode cX7_goWeeks 102 = .ok (.ifCond .ne 25, 3) := by decide +kernel
theorem dX7_goWeeks_105 : decode cX7_goWeeks 105 = .ok (.aload_n 0, 1) := by decide +kernel
theorem dX7_goWeeks_106 : decode cX7_goWeeks 106 = .ok (.aload_n 0, 1) := by decide +kernel
theorem dX7_goWeeks_107 : decode cX7_goWeeks 107 = .ok (.getfield 50, 3) := by decide +kernel
theorem dX7_goWeeks_110 : decode cX7_goWeeks 110 = .ok (.iload_n 1, 1) := by decide +kernel
theorem dX7_goWeeks_111 : decode cX7_goWeeks 111 = .ok (.iaload, 1) := by decide +kernel
theorem dX7_goWeeks_112 : decode cX7_goWeeks 112 = .ok (.aload_n 0, 1) := by decide +kernel
theorem dX7_goWeeks_113 : decode cX7_goWeeks 113 = .ok (.getfield 53, 3) := by decide +kernel
theorem dX7_goWeeks_116 : decode cX7_goWeeks 116 = .ok (.iload_n 1, 1) := by decide +kernel
theorem dX7_goWeeks_117 : decode cX7_goWeeks 117 = .ok (.iaload, 1) := by decide +kernel
theorem dX7_goWeeks_118 : decode cX7_goWeeks 118 = .ok (.aload_n 0, 1) := by decide +kernel
theorem dX7_goWeeks_119 : decode cX7_goWeeks 119 = .ok (.getfield 56, 3) := by decide +kernel
theorem dX7_goWeeks_122 : decode cX7_goWeeks 122 = .ok (.iload_n 1, 1) := by decide +kernel
theorem dX7_goWeeks_123 : decode cX7_goWeeks 123 = .ok (.iaload, 1) := by decide +kernel
theorem dX7_goWeeks_124 : decode cX7_goWeeks 124 = .ok (.invokevirtual 189, 3) := by decide +kernel
theorem dX7_goWeeks_127 : decode cX7_goWeeks 127 = .ok (.iinc 1 1, 3) := by decide +kernel
theorem dX7_goWeeks_130 : decode cX7_goWeeks 130 = .ok (.goto (-100), 3) := by decide +kernel
theorem dX7_goWeeks_133 : decode cX7_goWeeks 133 = .ok (.return_, 1) := by decide +kernel
theorem dX7_refusal_0 : decode cX7_refusal 0 = .ok (.aload_n 0, 1) := by decide +kernel
theorem dX7_refusal_1 : decode cX7_refusal 1 = .ok (.invokevirtual 193, 3) := by decide +kernel
theorem dX7_refusal_4 : decode cX7_refusal 4 = .ok (.aload_n 0, 1) := by decide +kernel
theorem dX7_refusal_5 : decode cX7_refusal 5 = .ok (.invokevirtual 196, 3) := by decide +kernel
theorem dX7_refusal_8 : decode cX7_refusal 8 = .ok (.ifCond .lt 6, 3) := by decide +kernel
theorem dX7_refusal_11 : decode cX7_refusal 11 = .ok (.bipush (-5), 2) := by decide +kernel
theorem dX7_refusal_13 : decode cX7_refusal 13 = .ok (.ireturn, 1) := by decide +kernel
theorem dX7_refusal_14 : decode cX7_refusal 14 = .ok (.aload_n 0, 1) := by decide +kernel
theorem dX7_refusal_15 : decode cX7_refusal 15 = .ok (.invokevirtual 199, 3) := by decide +kernel
theorem dX7_refusal_18 : decode cX7_refusal 18 = .ok (.aload_n 0, 1) := by decide +kernel
theorem dX7_refusal_19 : decode cX7_refusal 19 = .ok (.getfield 179, 3) := by decide +kernel
theorem dX7_refusal_22 : decode cX7_refusal 22 = .ok (.ifCond .lt 8, 3) := by decide +kernel
theorem dX7_refusal_25 : decode cX7_refusal 25 = .ok (.bipush (-3), 2) := by decide +kernel
theorem dX7_refusal_27 : decode cX7_refusal 27 = .ok (.goto 5, 3) := by decide +kernel
theorem dX7_refusal_30 : decode cX7_refusal 30 = .ok (.bipush (-6), 2) := by decide +kernel
theorem dX7_refusal_32 : decode cX7_refusal 32 = .ok (.ireturn, 1) := by decide +kernel
theorem dX7_judge_0 : decode cX7_judge 0 = .ok (.iload_n 1, 1) := by decide +kernel
theorem dX7_judge_1 : decode cX7_judge 1 = .ok (.i2l, 1) := by decide +kernel
theorem dX7_judge_2 : decode cX7_judge 2 = .ok (.lconst 0, 1) := by decide +kernel
theorem dX7_judge_3 : decode cX7_judge 3 = .ok (.ldc2_w 202, 3) := by decide +kernel
theorem dX7_judge_6 : decode cX7_judge 6 = .ok (.invokestatic 86, 3) := by decide +kernel
theorem dX7_judge_9 : decode cX7_judge 9 = .ok (.ifCond .ne 6, 3) := by decide +kernel
theorem dX7_judge_12 : decode cX7_judge 12 = .ok (.bipush (-2), 2) := by decide +kernel
theorem dX7_judge_14 : decode cX7_judge 14 = .ok (.ireturn, 1) := by decide +kernel
theorem dX7_judge_15 : decode cX7_judge 15 = .ok (.aload_n 0, 1) := by decide +kernel
theorem dX7_judge_16 : decode cX7_judge 16 = .ok (.aload_n 0, 1) := by decide +kernel
theorem dX7_judge_17 : decode cX7_judge 17 = .ok (.invokevirtual 204, 3) := by decide +kernel
theorem dX7_judge_20 : decode cX7_judge 20 = .ok (.invokevirtual 207, 3) := by decide +kernel
theorem dX7_judge_23 : decode cX7_judge 23 = .ok (.istore_n 2, 1) := by decide +kernel
theorem dX7_judge_24 : decode cX7_judge 24 = .ok (.iload_n 2, 1) := by decide +kernel
theorem dX7_judge_25 : decode cX7_judge 25 = .ok (.bipush (-5), 2) := by decide +kernel
theorem dX7_judge_27 : decode cX7_judge 27 = .ok (.if_icmp .eq 14, 3) := by decide +kernel
theorem dX7_judge_30 : decode cX7_judge 30 = .ok (.iload_n 1, 1) := by decide +kernel
theorem dX7_judge_31 : decode cX7_judge 31 = .ok (.iconst 1, 1) := by decide +kernel
theorem dX7_judge_32 : decode cX7_judge 32 = .ok (.if_icmp .le 11, 3) := by decide +kernel
theorem dX7_judge_35 : decode cX7_judge 35 = .ok (.iload_n 2, 1) := by decide +kernel
theorem dX7_judge_36 : decode cX7_judge 36 = .ok (.bipush (-3), 2) := by decide +kernel
theorem dX7_judge_38 : decode cX7_judge 38 = .ok (.if_icmp .ne 5, 3) := by decide +kernel
theorem dX7_judge_41 : decode cX7_judge 41 = .ok (.iload_n 2, 1) := by decide +kernel
theorem dX7_judge_42 : decode cX7_judge 42 = .ok (.ireturn, 1) := by decide +kernel
theorem dX7_judge_43 : decode cX7_judge 43 = .ok (.iload_n 1, 1) := by decide +kernel
theorem dX7_judge_44 : decode cX7_judge 44 = .ok (.ifCond .ne 10, 3) := by decide +kernel
theorem dX7_judge_47 : decode cX7_judge 47 = .ok (.aload_n 0, 1) := by decide +kernel
theorem dX7_judge_48 : decode cX7_judge 48 = .ok (.getfield 179, 3) := by decide +kernel
theorem dX7_judge_51 : decode cX7_judge 51 = .ok (.goto 19, 3) := by decide +kernel
theorem dX7_judge_54 : decode cX7_judge 54 = .ok (.iload_n 1, 1) := by decide +kernel
theorem dX7_judge_55 : decode cX7_judge 55 = .ok (.iconst 1, 1) := by decide +kernel
theorem dX7_judge_56 : decode cX7_judge 56 = .ok (.if_icmp .ne 10, 3) := by decide +kernel
theorem dX7_judge_59 : decode cX7_judge 59 = .ok (.aload_n 0, 1) := by decide +kernel
theorem dX7_judge_60 : decode cX7_judge 60 = .ok (.getfield 182, 3) := by decide +kernel
theorem dX7_judge_63 : decode cX7_judge 63 = .ok (.goto 7, 3) := by decide +kernel
theorem dX7_judge_66 : decode cX7_judge 66 = .ok (.aload_n 0, 1) := by decide +kernel
theorem dX7_judge_67 : decode cX7_judge 67 = .ok (.getfield 169, 3) := by decide +kernel
theorem dX7_judge_70 : decode cX7_judge 70 = .ok (.ireturn, 1) := by decide +kernel
theorem dX7_snoreBy_0 : decode cX7_snoreBy 0 = .ok (.iconst 3, 1) := by decide +kernel
theorem dX7_snoreBy_1 : decode cX7_snoreBy 1 = .ok (.iload_n 2, 1) := by decide +kernel
theorem dX7_snoreBy_2 : decode cX7_snoreBy 2 = .ok (.imul, 1) := by decide +kernel
theorem dX7_snoreBy_3 : decode cX7_snoreBy 3 = .ok (.istore_n 3, 1) := by decide +kernel
theorem dX7_snoreBy_4 : decode cX7_snoreBy 4 = .ok (.iconst 0, 1) := by decide +kernel
theorem dX7_snoreBy_5 : decode cX7_snoreBy 5 = .ok (.istore 4, 2) := by decide +kernel
theorem dX7_snoreBy_7 : decode cX7_snoreBy 7 = .ok (.iload 4, 2) := by decide +kernel
theorem dX7_snoreBy_9 : decode cX7_snoreBy 9 = .ok (.bipush 64, 2) := by decide +kernel
theorem dX7_snoreBy_11 : decode cX7_snoreBy 11 = .ok (.if_icmp .ge 33, 3) := by decide +kernel
theorem dX7_snoreBy_14 : decode cX7_snoreBy 14 = .ok (.iload_n 3, 1) := by decide +kernel
theorem dX7_snoreBy_15 : decode cX7_snoreBy 15 = .ok (.aload_n 0, 1) := by decide +kernel
theorem dX7_snoreBy_16 : decode cX7_snoreBy 16 = .ok (.iload_n 1, 1) := by decide +kernel
theorem dX7_snoreBy_17 : decode cX7_snoreBy 17 = .ok (.iload 4, 2) := by decide +kernel
theorem dX7_snoreBy_19 : decode cX7_snoreBy 19 = .ok (.invokevirtual 114, 3) := by decide +kernel
theorem dX7_snoreBy_22 : decode cX7_snoreBy 22 = .ok (.ifCond .eq 13, 3) := by decide +kernel
theorem dX7_snoreBy_25 : decode cX7_snoreBy 25 = .ok (.aload_n 0, 1) := by decide +kernel
theorem dX7_snoreBy_26 : decode cX7_snoreBy 26 = .ok (.getfield 7, 3) := by decide +kernel
theorem dX7_snoreBy_29 : decode cX7_snoreBy 29 = .ok (.iload 4, 2) := by decide +kernel
theorem dX7_snoreBy_31 : decode cX7_snoreBy 31 = .ok (.iaload, 1) := by decide +kernel
theorem dX7_snoreBy_32 : decode cX7_snoreBy 32 = .ok (.goto 4, 3) := by decide +kernel
theorem dX7_snoreBy_35 : decode cX7_snoreBy 35 = .ok (.iconst 0, 1) := by decide +kernel
theorem dX7_snoreBy_36 : decode cX7_snoreBy 36 = .ok (.iadd, 1) := by decide +kernel
theorem dX7_snoreBy_37 : decode cX7_snoreBy 37 = .ok (.istore_n 3, 1) := by decide +kernel
theorem dX7_snoreBy_38 : decode cX7_snoreBy 38 = .ok (.iinc 4 1, 3) := by decide +kernel
theorem dX7_snoreBy_41 : decode cX7_snoreBy 41 = .ok (.goto (-34), 3) := by decide +kernel
theorem dX7_snoreBy_44 : decode cX7_snoreBy 44 = .ok (.aload_n 0, 1) := by decide +kernel
theorem dX7_snoreBy_45 : decode cX7_snoreBy 45 = .ok (.getfield 26, 3) := by decide +kernel
theorem dX7_snoreBy_48 : decode cX7_snoreBy 48 = .ok (.iload_n 1, 1) := by decide +kernel
theorem dX7_snoreBy_49 : decode cX7_snoreBy 49 = .ok (.iaload, 1) := by decide +kernel
theorem dX7_snoreBy_50 : decode cX7_snoreBy 50 = .ok (.iconst 1, 1) := by decide +kernel
theorem dX7_snoreBy_51 : decode cX7_snoreBy 51 = .ok (.if_icmp .ne 9, 3) := by decide +kernel
theorem dX7_snoreBy_54 : decode cX7_snoreBy 54 = .ok (.iload_n 3, 1) := by decide +kernel
theorem dX7_snoreBy_55 : decode cX7_snoreBy 55 = .ok (.iconst 2, 1) := by decide +kernel
theorem dX7_snoreBy_56 : decode cX7_snoreBy 56 = .ok (.idiv, 1) := by decide +kernel
theorem dX7_snoreBy_57 : decode cX7_snoreBy 57 = .ok (.goto 4, 3) := by decide +kernel
theorem dX7_snoreBy_60 : decode cX7_snoreBy 60 = .ok (.iload_n 3, 1) := by decide +kernel
theorem dX7_snoreBy_61 : decode cX7_snoreBy 61 = .ok (.istore 4, 2) := by decide +kernel
theorem dX7_snoreBy_63 : decode cX7_snoreBy 63 = .ok (.iload 4, 2) := by decide +kernel
theorem dX7_snoreBy_65 : decode cX7_snoreBy 65 = .ok (.bipush 99, 2) := by decide +kernel
theorem dX7_snoreBy_67 : decode cX7_snoreBy 67 = .ok (.if_icmp .le 8, 3) := by decide +kernel
theorem dX7_snoreBy_70 : decode cX7_snoreBy 70 = .ok (.bipush 99, 2) := by decide +kernel
theorem dX7_snoreBy_72 : decode cX7_snoreBy 72 = .ok (.goto 5, 3) := by decide +kernel
theorem dX7_snoreBy_75 : decode cX7_snoreBy 75 = .ok (.iload 4, 2) := by decide +kernel
theorem dX7_snoreBy_77 : decode cX7_snoreBy 77 = .ok (.ireturn, 1) := by decide +kernel
theorem dX7_snore_0 : decode cX7_snore 0 = .ok (.aload_n 0, 1) := by decide +kernel
theorem dX7_snore_1 : decode cX7_snore 1 = .ok (.iload_n 1, 1) := by decide +kernel
theorem dX7_snore_2 : decode cX7_snore 2 = .ok (.aload_n 0, 1) := by decide +kernel
theorem dX7_snore_3 : decode cX7_snore 3 = .ok (.getfield 23, 3) := by decide +kernel
theorem dX7_snore_6 : decode cX7_snore 6 = .ok (.iload_n 1, 1) := by decide +kernel
theorem dX7_snore_7 : decode cX7_snore 7 = .ok (.iaload, 1) := by decide +kernel
theorem dX7_snore_8 : decode cX7_snore 8 = .ok (.invokevirtual 210, 3) := by decide +kernel
theorem dX7_snore_11 : decode cX7_snore 11 = .ok (.ireturn, 1) := by decide +kernel
theorem dX7_heardAt_0 : decode cX7_heardAt 0 = .ok (.iconst 0, 1) := by decide +kernel
theorem dX7_heardAt_1 : decode cX7_heardAt 1 = .ok (.istore_n 3, 1) := by decide +kernel
theorem dX7_heardAt_2 : decode cX7_heardAt 2 = .ok (.iconst 0, 1) := by decide +kernel
theorem dX7_heardAt_3 : decode cX7_heardAt 3 = .ok (.istore 4, 2) := by decide +kernel
theorem dX7_heardAt_5 : decode cX7_heardAt 5 = .ok (.iload 4, 2) := by decide +kernel
theorem dX7_heardAt_7 : decode cX7_heardAt 7 = .ok (.bipush 6, 2) := by decide +kernel
theorem dX7_heardAt_9 : decode cX7_heardAt 9 = .ok (.if_icmp .ge 52, 3) := by decide +kernel
theorem dX7_heardAt_12 : decode cX7_heardAt 12 = .ok (.iload_n 3, 1) := by decide +kernel
theorem dX7_heardAt_13 : decode cX7_heardAt 13 = .ok (.aload_n 0, 1) := by decide +kernel
theorem dX7_heardAt_14 : decode cX7_heardAt 14 = .ok (.iload 4, 2) := by decide +kernel
theorem dX7_heardAt_16 : decode cX7_heardAt 16 = .ok (.invokevirtual 106, 3) := by decide +kernel
theorem dX7_heardAt_19 : decode cX7_heardAt 19 = .ok (.ifCond .eq 33, 3) := by decide +kernel
theorem dX7_heardAt_22 : decode cX7_heardAt 22 = .ok (.iload 4, 2) := by decide +kernel
theorem dX7_heardAt_24 : decode cX7_heardAt 24 = .ok (.iload_n 2, 1) := by decide +kernel
theorem dX7_heardAt_25 : decode cX7_heardAt 25 = .ok (.if_icmp .eq 27, 3) := by decide +kernel
theorem dX7_heardAt_28 : decode cX7_heardAt 28 = .ok (.aload_n 0, 1) := by decide +kernel
theorem dX7_heardAt_29 : decode cX7_heardAt 29 = .ok (.iload 4, 2) := by decide +kernel
theorem dX7_heardAt_31 : decode cX7_heardAt 31 = .ok (.invokevirtual 213, 3) := by decide +kernel
theorem dX7_heardAt_34 : decode cX7_heardAt 34 = .ok (.iload_n 1, 1) := by decide +kernel
theorem dX7_heardAt_35 : decode cX7_heardAt 35 = .ok (.aload_n 0, 1) := by decide +kernel
theorem dX7_heardAt_36 : decode cX7_heardAt 36 = .ok (.getfield 16, 3) := by decide +kernel
theorem dX7_heardAt_39 : decode cX7_heardAt 39 = .ok (.iload 4, 2) := by decide +kernel
theorem dX7_heardAt_41 : decode cX7_heardAt 41 = .ok (.iaload, 1) := by decide +kernel
theorem dX7_heardAt_42 : decode cX7_heardAt 42 = .ok (.invokestatic 216, 3) := by decide +kernel
theorem dX7_heardAt_45 : decode cX7_heardAt 45 = .ok (.isub, 1) := by decide +kernel
theorem dX7_heardAt_46 : decode cX7_heardAt 46 = .ok (.invokestatic 219, 3) := by decide +kernel
theorem dX7_heardAt_49 : decode cX7_heardAt 49 = .ok (.goto 4, 3) := by decide +kernel
theorem dX7_heardAt_52 : decode cX7_heardAt 52 = .ok (.iconst 0, 1) := by decide +kernel
theorem dX7_heardAt_53 : decode cX7_heardAt 53 = .ok (.iadd, 1) := by decide +kernel
theorem dX7_heardAt_54 : decode cX7_heardAt 54 = .ok (.istore_n 3, 1) := by decide +kernel
theorem dX7_heardAt_55 : decode cX7_heardAt 55 = .ok (.iinc 4 1, 3) := by decide +kernel
theorem dX7_heardAt_58 : decode cX7_heardAt 58 = .ok (.goto (-53), 3) := by decide +kernel
theorem dX7_heardAt_61 : decode cX7_heardAt 61 = .ok (.iload_n 3, 1) := by decide +kernel
theorem dX7_heardAt_62 : decode cX7_heardAt 62 = .ok (.ireturn, 1) := by decide +kernel
theorem dX7_ofMan_0 : decode cX7_ofMan 0 = .ok (.iload_n 2, 1) := by decide +kernel
theorem dX7_ofMan_1 : decode cX7_ofMan 1 = .ok (.tableswitch 47 0 2 #[27, 34, 40], 27) := by decide +kernel
theorem dX7_ofMan_28 : decode cX7_ofMan 28 = .ok (.aload_n 0, 1) := by decide +kernel
theorem dX7_ofMan_29 : decode cX7_ofMan 29 = .ok (.getfield 16, 3) := by decide +kernel
theorem dX7_ofMan_32 : decode cX7_ofMan 32 = .ok (.iload_n 1, 1) := by decide +kernel
theorem dX7_ofMan_33 : decode cX7_ofMan 33 = .ok (.iaload, 1) := by decide +kernel
theorem dX7_ofMan_34 : decode cX7_ofMan 34 = .ok (.ireturn, 1) := by decide +kernel
theorem dX7_ofMan_35 : decode cX7_ofMan 35 = .ok (.aload_n 0, 1) := by decide +kernel
theorem dX7_ofMan_36 : decode cX7_ofMan 36 = .ok (.iload_n 1, 1) := by decide +kernel
theorem dX7_ofMan_37 : decode cX7_ofMan 37 = .ok (.invokevirtual 213, 3) := by decide +kernel
theorem dX7_ofMan_40 : decode cX7_ofMan 40 = .ok (.ireturn, 1) := by decide +kernel
theorem dX7_ofMan_41 : decode cX7_ofMan 41 = .ok (.aload_n 0, 1) := by decide +kernel
theorem dX7_ofMan_42 : decode cX7_ofMan 42 = .ok (.getfield 29, 3) := by decide +kernel
theorem dX7_ofMan_45 : decode cX7_ofMan 45 = .ok (.iload_n 1, 1) := by decide +kernel
theorem dX7_ofMan_46 : decode cX7_ofMan 46 = .ok (.iaload, 1) := by decide +kernel
theorem dX7_ofMan_47 : decode cX7_ofMan 47 = .ok (.ireturn, 1) := by decide +kernel
theorem dX7_ofMan_48 : decode cX7_ofMan 48 = .ok (.aload_n 0, 1) := by decide +kernel
theorem dX7_ofMan_49 : decode cX7_ofMan 49 = .ok (.iload_n 1, 1) := by decide +kernel
theorem dX7_ofMan_50 : decode cX7_ofMan 50 = .ok (.invokevirtual 118, 3) := by decide +kernel
theorem dX7_ofMan_53 : decode cX7_ofMan 53 = .ok (.ireturn, 1) := by decide +kernel
theorem dX7_behind_0 : decode cX7_behind 0 = .ok (.aload_n 0, 1) := by decide +kernel
theorem dX7_behind_1 : decode cX7_behind 1 = .ok (.iload_n 1, 1) := by decide +kernel
theorem dX7_behind_2 : decode cX7_behind 2 = .ok (.invokevirtual 106, 3) := by decide +kernel
theorem dX7_behind_5 : decode cX7_behind 5 = .ok (.ifCond .ne 5, 3) := by decide +kernel
theorem dX7_behind_8 : decode cX7_behind 8 = .ok (.iconst (-1), 1) := by decide +kernel
theorem dX7_behind_9 : decode cX7_behind 9 = .ok (.ireturn, 1) := by decide +kernel
theorem dX7_behind_10 : decode cX7_behind 10 = .ok (.iload_n 2, 1) := by decide +kernel
theorem dX7_behind_11 : decode cX7_behind 11 = .ok (.i2l, 1) := by decide +kernel
theorem dX7_behind_12 : decode cX7_behind 12 = .ok (.lconst 0, 1) := by decide +kernel
theorem dX7_behind_13 : decode cX7_behind 13 = .ok (.ldc2_w 222, 3) := by decide +kernel
theorem dX7_behind_16 : decode cX7_behind 16 = .ok (.invokestatic 86, 3) := by decide +kernel
theorem dX7_behind_19 : decode cX7_behind 19 = .ok (.ifCond .ne 6, 3) := by decide +kernel
theorem dX7_behind_22 : decode cX7_behind 22 = .ok (.bipush (-2), 2) := by decide +kernel
theorem dX7_behind_24 : decode cX7_behind 24 = .ok (.ireturn, 1) := by decide +kernel
theorem dX7_behind_25 : decode cX7_behind 25 = .ok (.aload_n 0, 1) := by decide +kernel
theorem dX7_behind_26 : decode cX7_behind 26 = .ok (.invokevirtual 204, 3) := by decide +kernel
theorem dX7_behind_29 : decode cX7_behind 29 = .ok (.istore_n 3, 1) := by decide +kernel
theorem dX7_behind_30 : decode cX7_behind 30 = .ok (.aload_n 0, 1) := by decide +kernel
theorem dX7_behind_31 : decode cX7_behind 31 = .ok (.iload_n 3, 1) := by decide +kernel
theorem dX7_behind_32 : decode cX7_behind 32 = .ok (.bipush (-6), 2) := by decide +kernel
theorem dX7_behind_34 : decode cX7_behind 34 = .ok (.if_icmp .eq 7, 3) := by decide +kernel
theorem dX7_behind_37 : decode cX7_behind 37 = .ok (.iload_n 3, 1) := by decide +kernel
theorem dX7_behind_38 : decode cX7_behind 38 = .ok (.goto 9, 3) := by decide +kernel
theorem dX7_behind_41 : decode cX7_behind 41 = .ok (.aload_n 0, 1) := by decide +kernel
theorem dX7_behind_42 : decode cX7_behind 42 = .ok (.iload_n 1, 1) := by decide +kernel
theorem dX7_behind_43 : decode cX7_behind 43 = .ok (.iload_n 2, 1) := by decide +kernel
theorem dX7_behind_44 : decode cX7_behind 44 = .ok (.invokevirtual 224, 3) := by decide +kernel
theorem dX7_behind_47 : decode cX7_behind 47 = .ok (.invokevirtual 207, 3) := by decide +kernel
theorem dX7_behind_50 : decode cX7_behind 50 = .ok (.ireturn, 1) := by decide +kernel
theorem dX7_heard_0 : decode cX7_heard 0 = .ok (.iload_n 1, 1) := by decide +kernel
theorem dX7_heard_1 : decode cX7_heard 1 = .ok (.invokestatic 96, 3) := by decide +kernel
theorem dX7_heard_4 : decode cX7_heard 4 = .ok (.ifCond .ne 6, 3) := by decide +kernel
theorem dX7_heard_7 : decode cX7_heard 7 = .ok (.bipush (-2), 2) := by decide +kernel
theorem dX7_heard_9 : decode cX7_heard 9 = .ok (.ireturn, 1) := by decide +kernel
theorem dX7_heard_10 : decode cX7_heard 10 = .ok (.aload_n 0, 1) := by decide +kernel
theorem dX7_heard_11 : decode cX7_heard 11 = .ok (.invokevirtual 204, 3) := by decide +kernel
theorem dX7_heard_14 : decode cX7_heard 14 = .ok (.istore_n 2, 1) := by decide +kernel
theorem dX7_heard_15 : decode cX7_heard 15 = .ok (.aload_n 0, 1) := by decide +kernel
theorem dX7_heard_16 : decode cX7_heard 16 = .ok (.iload_n 2, 1) := by decide +kernel
theorem dX7_heard_17 : decode cX7_heard 17 = .ok (.bipush (-6), 2) := by decide +kernel
theorem dX7_heard_19 : decode cX7_heard 19 = .ok (.if_icmp .eq 7, 3) := by decide +kernel
theorem dX7_heard_22 : decode cX7_heard 22 = .ok (.iload_n 2, 1) := by decide +kernel
theorem dX7_heard_23 : decode cX7_heard 23 = .ok (.goto 10, 3) := by decide +kernel
theorem dX7_heard_26 : decode cX7_heard 26 = .ok (.aload_n 0, 1) := by decide +kernel
theorem dX7_heard_27 : decode cX7_heard 27 = .ok (.iload_n 1, 1) := by decide +kernel
theorem dX7_heard_28 : decode cX7_heard 28 = .ok (.bipush (-6), 2) := by decide +kernel
theorem dX7_heard_30 : decode cX7_heard 30 = .ok (.invokevirtual 227, 3) := by decide +kernel
theorem dX7_heard_33 : decode cX7_heard 33 = .ok (.invokevirtual 207, 3) := by decide +kernel
theorem dX7_heard_36 : decode cX7_heard 36 = .ok (.ireturn, 1) := by decide +kernel
theorem dX7_whose_0 : decode cX7_whose 0 = .ok (.iload_n 1, 1) := by decide +kernel
theorem dX7_whose_1 : decode cX7_whose 1 = .ok (.invokestatic 96, 3) := by decide +kernel
theorem dX7_whose_4 : decode cX7_whose 4 = .ok (.ifCond .ne 6, 3) := by decide +kernel
theorem dX7_whose_7 : decode cX7_whose 7 = .ok (.bipush (-2), 2) := by decide +kernel
theorem dX7_whose_9 : decode cX7_whose 9 = .ok (.ireturn, 1) := by decide +kernel
theorem dX7_whose_10 : decode cX7_whose 10 = .ok (.aload_n 0, 1) := by decide +kernel
theorem dX7_whose_11 : decode cX7_whose 11 = .ok (.invokevirtual 204, 3) := by decide +kernel
theorem dX7_whose_14 : decode cX7_whose 14 = .ok (.istore_n 2, 1) := by decide +kernel
theorem dX7_whose_15 : decode cX7_whose 15 = .ok (.aload_n 0, 1) := by decide +kernel
theorem dX7_whose_16 : decode cX7_whose 16 = .ok (.iload_n 2, 1) := by decide +kernel
theorem dX7_whose_17 : decode cX7_whose 17 = .ok (.bipush (-6), 2) := by decide +kernel
theorem dX7_whose_19 : decode cX7_whose 19 = .ok (.if_icmp .eq 7, 3) := by decide +kernel
theorem dX7_whose_22 : decode cX7_whose 22 = .ok (.iload_n 2, 1) := by decide +kernel
theorem dX7_whose_23 : decode cX7_whose 23 = .ok (.goto 9, 3) := by decide +kernel
theorem dX7_whose_26 : decode cX7_whose 26 = .ok (.aload_n 0, 1) := by decide +kernel
theorem dX7_whose_27 : decode cX7_whose 27 = .ok (.getfield 13, 3) := by decide +kernel
theorem dX7_whose_30 : decode cX7_whose 30 = .ok (.iload_n 1, 1) := by decide +kernel
theorem dX7_whose_31 : decode cX7_whose 31 = .ok (.iaload, 1) := by decide +kernel
theorem dX7_whose_32 : decode cX7_whose 32 = .ok (.invokevirtual 207, 3) := by decide +kernel
theorem dX7_whose_35 : decode cX7_whose 35 = .ok (.ireturn, 1) := by decide +kernel
theorem dX7_nothing_0 : decode cX7_nothing 0 = .ok (.iload_n 1, 1) := by decide +kernel
theorem dX7_nothing_1 : decode cX7_nothing 1 = .ok (.i2l, 1) := by decide +kernel
theorem dX7_nothing_2 : decode cX7_nothing 2 = .ok (.lconst 0, 1) := by decide +kernel
theorem dX7_nothing_3 : decode cX7_nothing 3 = .ok (.lconst 1, 1) := by decide +kernel
theorem dX7_nothing_4 : decode cX7_nothing 4 = .ok (.invokestatic 86, 3) := by decide +kernel
theorem dX7_nothing_7 : decode cX7_nothing 7 = .ok (.ifCond .ne 6, 3) := by decide +kernel
theorem dX7_nothing_10 : decode cX7_nothing 10 = .ok (.bipush (-2), 2) := by decide +kernel
theorem dX7_nothing_12 : decode cX7_nothing 12 = .ok (.ireturn, 1) := by decide +kernel
theorem dX7_nothing_13 : decode cX7_nothing 13 = .ok (.aload_n 0, 1) := by decide +kernel
theorem dX7_nothing_14 : decode cX7_nothing 14 = .ok (.aload_n 0, 1) := by decide +kernel
theorem dX7_nothing_15 : decode cX7_nothing 15 = .ok (.invokevirtual 204, 3) := by decide +kernel
theorem dX7_nothing_18 : decode cX7_nothing 18 = .ok (.invokevirtual 207, 3) := by decide +kernel
theorem dX7_nothing_21 : decode cX7_nothing 21 = .ok (.istore_n 2, 1) := by decide +kernel
theorem dX7_nothing_22 : decode cX7_nothing 22 = .ok (.iload_n 2, 1) := by decide +kernel
theorem dX7_nothing_23 : decode cX7_nothing 23 = .ok (.bipush (-6), 2) := by decide +kernel
theorem dX7_nothing_25 : decode cX7_nothing 25 = .ok (.if_icmp .eq 7, 3) := by decide +kernel
theorem dX7_nothing_28 : decode cX7_nothing 28 = .ok (.iload_n 2, 1) := by decide +kernel
theorem dX7_nothing_29 : decode cX7_nothing 29 = .ok (.goto 18, 3) := by decide +kernel
theorem dX7_nothing_32 : decode cX7_nothing 32 = .ok (.iload_n 1, 1) := by decide +kernel
theorem dX7_nothing_33 : decode cX7_nothing 33 = .ok (.ifCond .ne 10, 3) := by decide +kernel
theorem dX7_nothing_36 : decode cX7_nothing 36 = .ok (.aload_n 0, 1) := by decide +kernel
theorem dX7_nothing_37 : decode cX7_nothing 37 = .ok (.getfield 160, 3) := by decide +kernel
theorem dX7_nothing_40 : decode cX7_nothing 40 = .ok (.goto 7, 3) := by decide +kernel
theorem dX7_nothing_43 : decode cX7_nothing 43 = .ok (.aload_n 0, 1) := by decide +kernel
theorem dX7_nothing_44 : decode cX7_nothing 44 = .ok (.getfield 166, 3) := by decide +kernel
theorem dX7_nothing_47 : decode cX7_nothing 47 = .ok (.ireturn, 1) := by decide +kernel
theorem dX7_done_0 : decode cX7_done 0 = .ok (.aload_n 0, 1) := by decide +kernel
theorem dX7_done_1 : decode cX7_done 1 = .ok (.invokevirtual 204, 3) := by decide +kernel
theorem dX7_done_4 : decode cX7_done 4 = .ok (.istore_n 1, 1) := by decide +kernel
theorem dX7_done_5 : decode cX7_done 5 = .ok (.iload_n 1, 1) := by decide +kernel
theorem dX7_done_6 : decode cX7_done 6 = .ok (.bipush (-6), 2) := by decide +kernel
theorem dX7_done_8 : decode cX7_done 8 = .ok (.if_icmp .eq 9, 3) := by decide +kernel
theorem dX7_done_11 : decode cX7_done 11 = .ok (.aload_n 0, 1) := by decide +kernel
theorem dX7_done_12 : decode cX7_done 12 = .ok (.iload_n 1, 1) := by decide +kernel
theorem dX7_done_13 : decode cX7_done 13 = .ok (.invokevirtual 207, 3) := by decide +kernel
theorem dX7_done_16 : decode cX7_done 16 = .ok (.ireturn, 1) := by decide +kernel
theorem dX7_done_17 : decode cX7_done 17 = .ok (.aload_n 0, 1) := by decide +kernel
theorem dX7_done_18 : decode cX7_done 18 = .ok (.iconst 0, 1) := by decide +kernel
theorem dX7_done_19 : decode cX7_done 19 = .ok (.putfield 129, 3) := by decide +kernel
theorem dX7_done_22 : decode cX7_done 22 = .ok (.aload_n 0, 1) := by decide +kernel
theorem dX7_done_23 : decode cX7_done 23 = .ok (.getfield 132, 3) := by decide +kernel
theorem dX7_done_26 : decode cX7_done 26 = .ok (.ireturn, 1) := by decide +kernel
theorem dX7_loudest_0 : decode cX7_loudest 0 = .ok (.iload_n 1, 1) := by decide +kernel
theorem dX7_loudest_1 : decode cX7_loudest 1 = .ok (.i2l, 1) := by decide +kernel
theorem dX7_loudest_2 : decode cX7_loudest 2 = .ok (.lconst 0, 1) := by decide +kernel
theorem dX7_loudest_3 : decode cX7_loudest 3 = .ok (.lconst 1, 1) := by decide +kernel
theorem dX7_loudest_4 : decode cX7_loudest 4 = .ok (.invokestatic 86, 3) := by decide +kernel
theorem dX7_loudest_7 : decode cX7_loudest 7 = .ok (.ifCond .ne 6, 3) := by decide +kernel
theorem dX7_loudest_10 : decode cX7_loudest 10 = .ok (.bipush (-2), 2) := by decide +kernel
theorem dX7_loudest_12 : decode cX7_loudest 12 = .ok (.ireturn, 1) := by decide +kernel
theorem dX7_loudest_13 : decode cX7_loudest 13 = .ok (.iconst 0, 1) := by decide +kernel
theorem dX7_loudest_14 : decode cX7_loudest 14 = .ok (.istore_n 2, 1) := by decide +kernel
theorem dX7_loudest_15 : decode cX7_loudest 15 = .ok (.iconst 1, 1) := by decide +kernel
theorem dX7_loudest_16 : decode cX7_loudest 16 = .ok (.istore_n 3, 1) := by decide +kernel
theorem dX7_loudest_17 : decode cX7_loudest 17 = .ok (.iload_n 3, 1) := by decide +kernel
theorem dX7_loudest_18 : decode cX7_loudest 18 = .ok (.bipush 64, 2) := by decide +kernel
theorem dX7_loudest_20 : decode cX7_loudest 20 = .ok (.if_icmp .ge 32, 3) := by decide +kernel
theorem dX7_loudest_23 : decode cX7_loudest 23 = .ok (.aload_n 0, 1) := by decide +kernel
theorem dX7_loudest_24 : decode cX7_loudest 24 = .ok (.iload_n 3, 1) := by decide +kernel
theorem dX7_loudest_25 : decode cX7_loudest 25 = .ok (.bipush (-6), 2) := by decide +kernel
theorem dX7_loudest_27 : decode cX7_loudest 27 = .ok (.invokevirtual 227, 3) := by decide +kernel
theorem dX7_loudest_30 : decode cX7_loudest 30 = .ok (.aload_n 0, 1) := by decide +kernel
theorem dX7_loudest_31 : decode cX7_loudest 31 = .ok (.iload_n 2, 1) := by decide +kernel
theorem dX7_loudest_32 : decode cX7_loudest 32 = .ok (.bipush (-6), 2) := by decide +kernel
theorem dX7_loudest_34 : decode cX7_loudest 34 = .ok (.invokevirtual 227, 3) := by decide +kernel
theorem dX7_loudest_37 : decode cX7_loudest 37 = .ok (.if_icmp .le 7, 3) := by decide +kernel
theorem dX7_loudest_40 : decode cX7_loudest 40 = .ok (.iload_n 3, 1) := by decide +kernel
theorem dX7_loudest_41 : decode cX7_loudest 41 = .ok (.goto 4, 3) := by decide +kernel
theorem dX7_loudest_44 : decode cX7_loudest 44 = .ok (.iload_n 2, 1) := by decide +kernel
theorem dX7_loudest_45 : decode cX7_loudest 45 = .ok (.istore_n 2, 1) := by decide +kernel
theorem dX7_loudest_46 : decode cX7_loudest 46 = .ok (.iinc 3 1, 3) := by decide +kernel
theorem dX7_loudest_49 : decode cX7_loudest 49 = .ok (.goto (-32), 3) := by decide +kernel
theorem dX7_loudest_52 : decode cX7_loudest 52 = .ok (.iload_n 1, 1) := by decide +kernel
theorem dX7_loudest_53 : decode cX7_loudest 53 = .ok (.ifCond .ne 7, 3) := by decide +kernel
theorem dX7_loudest_56 : decode cX7_loudest 56 = .ok (.iload_n 2, 1) := by decide +kernel
theorem dX7_loudest_57 : decode cX7_loudest 57 = .ok (.goto 10, 3) := by decide +kernel
theorem dX7_loudest_60 : decode cX7_loudest 60 = .ok (.aload_n 0, 1) := by decide +kernel
theorem dX7_loudest_61 : decode cX7_loudest 61 = .ok (.iload_n 2, 1) := by decide +kernel
theorem dX7_loudest_62 : decode cX7_loudest 62 = .ok (.bipush (-6), 2) := by decide +kernel
theorem dX7_loudest_64 : decode cX7_loudest 64 = .ok (.invokevirtual 227, 3) := by decide +kernel
theorem dX7_loudest_67 : decode cX7_loudest 67 = .ok (.ireturn, 1) := by decide +kernel
theorem dX7_givenAway_0 : decode cX7_givenAway 0 = .ok (.aload_n 0, 1) := by decide +kernel
theorem dX7_givenAway_1 : decode cX7_givenAway 1 = .ok (.iload_n 1, 1) := by decide +kernel
theorem dX7_givenAway_2 : decode cX7_givenAway 2 = .ok (.invokevirtual 213, 3) := by decide +kernel
theorem dX7_givenAway_5 : decode cX7_givenAway 5 = .ok (.istore_n 3, 1) := by decide +kernel
theorem dX7_givenAway_6 : decode cX7_givenAway 6 = .ok (.iconst 0, 1) := by decide +kernel
theorem dX7_givenAway_7 : decode cX7_givenAway 7 = .ok (.istore 4, 2) := by decide +kernel
theorem dX7_givenAway_9 : decode cX7_givenAway 9 = .ok (.iconst 0, 1) := by decide +kernel
theorem dX7_givenAway_10 : decode cX7_givenAway 10 = .ok (.istore 5, 2) := by decide +kernel
theorem dX7_givenAway_12 : decode cX7_givenAway 12 = .ok (.iload 5, 2) := by decide +kernel
theorem dX7_givenAway_14 : decode cX7_givenAway 14 = .ok (.bipush 6, 2) := by decide +kernel
theorem dX7_givenAway_16 : decode cX7_givenAway 16 = .ok (.if_icmp .ge 49, 3) := by decide +kernel
theorem dX7_givenAway_19 : decode cX7_givenAway 19 = .ok (.iload 4, 2) := by decide +kernel
theorem dX7_givenAway_21 : decode cX7_givenAway 21 = .ok (.aload_n 0, 1) := by decide +kernel
theorem dX7_givenAway_22 : decode cX7_givenAway 22 = .ok (.iload 5, 2) := by decide +kernel
theorem dX7_givenAway_24 : decode cX7_givenAway 24 = .ok (.invokevirtual 106, 3) := by decide +kernel
theorem dX7_givenAway_27 : decode cX7_givenAway 27 = .ok (.ifCond .eq 28, 3) := by decide +kernel
theorem dX7_givenAway_30 : decode cX7_givenAway 30 = .ok (.iload 5, 2) := by decide +kernel
theorem dX7_givenAway_32 : decode cX7_givenAway 32 = .ok (.iload_n 1, 1) := by decide +kernel
theorem dX7_givenAway_33 : decode cX7_givenAway 33 = .ok (.if_icmp .eq 22, 3) := by decide +kernel
theorem dX7_givenAway_36 : decode cX7_givenAway 36 = .ok (.iload_n 3, 1) := by decide +kernel
theorem dX7_givenAway_37 : decode cX7_givenAway 37 = .ok (.iload_n 2, 1) := by decide +kernel
theorem dX7_givenAway_38 : decode cX7_givenAway 38 = .ok (.aload_n 0, 1) := by decide +kernel
theorem dX7_givenAway_39 : decode cX7_givenAway 39 = .ok (.getfield 16, 3) := by decide +kernel
theorem dX7_givenAway_42 : decode cX7_givenAway 42 = .ok (.iload 5, 2) := by decide +kernel
theorem dX7_givenAway_44 : decode cX7_givenAway 44 = .ok (.iaload, 1) := by decide +kernel
theorem dX7_givenAway_45 : decode cX7_givenAway 45 = .ok (.invokestatic 216, 3) := by decide +kernel
theorem dX7_givenAway_48 : decode cX7_givenAway 48 = .ok (.isub, 1) := by decide +kernel
theorem dX7_givenAway_49 : decode cX7_givenAway 49 = .ok (.invokestatic 219, 3) := by decide +kernel
theorem dX7_givenAway_52 : decode cX7_givenAway 52 = .ok (.goto 4, 3) := by decide +kernel
theorem dX7_givenAway_55 : decode cX7_givenAway 55 = .ok (.iconst 0, 1) := by decide +kernel
theorem dX7_givenAway_56 : decode cX7_givenAway 56 = .ok (.iadd, 1) := by decide +kernel
theorem dX7_givenAway_57 : decode cX7_givenAway 57 = .ok (.istore 4, 2) := by decide +kernel
theorem dX7_givenAway_59 : decode cX7_givenAway 59 = .ok (.iinc 5 1, 3) := by decide +kernel
theorem dX7_givenAway_62 : decode cX7_givenAway 62 = .ok (.goto (-50), 3) := by decide +kernel
theorem dX7_givenAway_65 : decode cX7_givenAway 65 = .ok (.iload 4, 2) := by decide +kernel
theorem dX7_givenAway_67 : decode cX7_givenAway 67 = .ok (.ireturn, 1) := by decide +kernel
theorem dX7_quietAt_0 : decode cX7_quietAt 0 = .ok (.iload_n 3, 1) := by decide +kernel
theorem dX7_quietAt_1 : decode cX7_quietAt 1 = .ok (.ifCond .eq 12, 3) := by decide +kernel
theorem dX7_quietAt_4 : decode cX7_quietAt 4 = .ok (.aload_n 0, 1) := by decide +kernel
theorem dX7_quietAt_5 : decode cX7_quietAt 5 = .ok (.iload_n 1, 1) := by decide +kernel
theorem dX7_quietAt_6 : decode cX7_quietAt 6 = .ok (.iload_n 2, 1) := by decide +kernel
theorem dX7_quietAt_7 : decode cX7_quietAt 7 = .ok (.invokevirtual 230, 3) := by decide +kernel
theorem dX7_quietAt_10 : decode cX7_quietAt 10 = .ok (.goto 9, 3) := by decide +kernel
theorem dX7_quietAt_13 : decode cX7_quietAt 13 = .ok (.aload_n 0, 1) := by decide +kernel
theorem dX7_quietAt_14 : decode cX7_quietAt 14 = .ok (.iload_n 2, 1) := by decide +kernel
theorem dX7_quietAt_15 : decode cX7_quietAt 15 = .ok (.iload_n 1, 1) := by decide +kernel
theorem dX7_quietAt_16 : decode cX7_quietAt 16 = .ok (.invokevirtual 227, 3) := by decide +kernel
theorem dX7_quietAt_19 : decode cX7_quietAt 19 = .ok (.ireturn, 1) := by decide +kernel
theorem dX7_quietest_0 : decode cX7_quietest 0 = .ok (.bipush (-6), 2) := by decide +kernel
theorem dX7_quietest_2 : decode cX7_quietest 2 = .ok (.istore 5, 2) := by decide +kernel
theorem dX7_quietest_4 : decode cX7_quietest 4 = .ok (.iconst 0, 1) := by decide +kernel
theorem dX7_quietest_5 : decode cX7_quietest 5 = .ok (.istore 6, 2) := by decide +kernel
theorem dX7_quietest_7 : decode cX7_quietest 7 = .ok (.iconst 0, 1) := by decide +kernel
theorem dX7_quietest_8 : decode cX7_quietest 8 = .ok (.istore 7, 2) := by decide +kernel
theorem dX7_quietest_10 : decode cX7_quietest 10 = .ok (.iload 7, 2) := by decide +kernel
theorem dX7_quietest_12 : decode cX7_quietest 12 = .ok (.bipush 64, 2) := by decide +kernel
theorem dX7_quietest_14 : decode cX7_quietest 14 = .ok (.if_icmp .ge 74, 3) := by decide +kernel
theorem dX7_quietest_17 : decode cX7_quietest 17 = .ok (.iload 7, 2) := by decide +kernel
theorem dX7_quietest_19 : decode cX7_quietest 19 = .ok (.aload_n 0, 1) := by decide +kernel
theorem dX7_quietest_20 : decode cX7_quietest 20 = .ok (.getfield 16, 3) := by decide +kernel
theorem dX7_quietest_23 : decode cX7_quietest 23 = .ok (.iload_n 1, 1) := by decide +kernel
theorem dX7_quietest_24 : decode cX7_quietest 24 = .ok (.iaload, 1) := by decide +kernel
theorem dX7_quietest_25 : decode cX7_quietest 25 = .ok (.invokestatic 216, 3) := by decide +kernel
theorem dX7_quietest_28 : decode cX7_quietest 28 = .ok (.iload_n 2, 1) := by decide +kernel
theorem dX7_quietest_29 : decode cX7_quietest 29 = .ok (.if_icmp .gt 15, 3) := by decide +kernel
theorem dX7_quietest_32 : decode cX7_quietest 32 = .ok (.aload_n 0, 1) := by decide +kernel
theorem dX7_quietest_33 : decode cX7_quietest 33 = .ok (.iload_n 1, 1) := by decide +kernel
theorem dX7_quietest_34 : decode cX7_quietest 34 = .ok (.iload 7, 2) := by decide +kernel
theorem dX7_quietest_36 : decode cX7_quietest 36 = .ok (.iload 4, 2) := by decide +kernel
theorem dX7_quietest_38 : decode cX7_quietest 38 = .ok (.invokevirtual 233, 3) := by decide +kernel
theorem dX7_quietest_41 : decode cX7_quietest 41 = .ok (.goto 4, 3) := by decide +kernel
theorem dX7_quietest_44 : decode cX7_quietest 44 = .ok (.iconst 0, 1) := by decide +kernel
theorem dX7_quietest_45 : decode cX7_quietest 45 = .ok (.istore 8, 2) := by decide +kernel
theorem dX7_quietest_47 : decode cX7_quietest 47 = .ok (.iload 7, 2) := by decide +kernel
theorem dX7_quietest_49 : decode cX7_quietest 49 = .ok (.aload_n 0, 1) := by decide +kernel
theorem dX7_quietest_50 : decode cX7_quietest 50 = .ok (.getfield 16, 3) := by decide +kernel
theorem dX7_quietest_53 : decode cX7_quietest 53 = .ok (.iload_n 1, 1) := by decide +kernel
theorem dX7_quietest_54 : decode cX7_quietest 54 = .ok (.iaload, 1) := by decide +kernel
theorem dX7_quietest_55 : decode cX7_quietest 55 = .ok (.invokestatic 216, 3) := by decide +kernel
theorem dX7_quietest_58 : decode cX7_quietest 58 = .ok (.iload_n 2, 1) := by decide +kernel
theorem dX7_quietest_59 : decode cX7_quietest 59 = .ok (.if_icmp .gt 23, 3) := by decide +kernel
theorem dX7_quietest_62 : decode cX7_quietest 62 = .ok (.iload 5, 2) := by decide +kernel
theorem dX7_quietest_64 : decode cX7_quietest 64 = .ok (.ifCond .lt 10, 3) := by decide +kernel
theorem dX7_quietest_67 : decode cX7_quietest 67 = .ok (.iload 8, 2) := by decide +kernel
theorem dX7_quietest_69 : decode cX7_quietest 69 = .ok (.iload 6, 2) := by decide +kernel
theorem dX7_quietest_71 : decode cX7_quietest 71 = .ok (.if_icmp .ge 11, 3) := by decide +kernel
theorem dX7_quietest_74 : decode cX7_quietest 74 = .ok (.iload 7, 2) := by decide +kernel
theorem dX7_quietest_76 : decode cX7_quietest 76 = .ok (.istore 5, 2) := by decide +kernel
theorem dX7_quietest_78 : decode cX7_quietest 78 = .ok (.iload 8, 2) := by decide +kernel
theorem dX7_quietest_80 : decode cX7_quietest 80 = .ok (.istore 6, 2) := by decide +kernel
theorem dX7_quietest_82 : decode cX7_quietest 82 = .ok (.iinc 7 1, 3) := by decide +kernel
theorem dX7_quietest_85 : decode cX7_quietest 85 = .ok (.goto (-75), 3) := by decide +kernel
theorem dX7_quietest_88 : decode cX7_quietest 88 = .ok (.iload_n 3, 1) := by decide +kernel
theorem dX7_quietest_89 : decode cX7_quietest 89 = .ok (.ifCond .ne 8, 3) := by decide +kernel
theorem dX7_quietest_92 : decode cX7_quietest 92 = .ok (.iload 5, 2) := by decide +kernel
theorem dX7_quietest_94 : decode cX7_quietest 94 = .ok (.goto 5, 3) := by decide +kernel
theorem dX7_quietest_97 : decode cX7_quietest 97 = .ok (.iload 6, 2) := by decide +kernel
theorem dX7_quietest_99 : decode cX7_quietest 99 = .ok (.ireturn, 1) := by decide +kernel
theorem dX7_sleep_0 : decode cX7_sleep 0 = .ok (.aload_n 0, 1) := by decide +kernel
theorem dX7_sleep_1 : decode cX7_sleep 1 = .ok (.iload_n 1, 1) := by decide +kernel
theorem dX7_sleep_2 : decode cX7_sleep 2 = .ok (.invokevirtual 106, 3) := by decide +kernel
theorem dX7_sleep_5 : decode cX7_sleep 5 = .ok (.ifCond .ne 5, 3) := by decide +kernel
theorem dX7_sleep_8 : decode cX7_sleep 8 = .ok (.iconst (-1), 1) := by decide +kernel
theorem dX7_sleep_9 : decode cX7_sleep 9 = .ok (.ireturn, 1) := by decide +kernel
theorem dX7_sleep_10 : decode cX7_sleep 10 = .ok (.iload_n 2, 1) := by decide +kernel
theorem dX7_sleep_11 : decode cX7_sleep 11 = .ok (.i2l, 1) := by decide +kernel
theorem dX7_sleep_12 : decode cX7_sleep 12 = .ok (.lconst 0, 1) := by decide +kernel
theorem dX7_sleep_13 : decode cX7_sleep 13 = .ok (.ldc2_w 237, 3) := by decide +kernel
theorem dX7_sleep_16 : decode cX7_sleep 16 = .ok (.invokestatic 86, 3) := by decide +kernel
theorem dX7_sleep_19 : decode cX7_sleep 19 = .ok (.ifCond .eq 24, 3) := by decide +kernel
theorem dX7_sleep_22 : decode cX7_sleep 22 = .ok (.iload_n 3, 1) := by decide +kernel
theorem dX7_sleep_23 : decode cX7_sleep 23 = .ok (.i2l, 1) := by decide +kernel
theorem dX7_sleep_24 : decode cX7_sleep 24 = .ok (.lconst 0, 1) := by decide +kernel
theorem dX7_sleep_25 : decode cX7_sleep 25 = .ok (.lconst 1, 1) := by decide +kernel
theorem dX7_sleep_26 : decode cX7_sleep 26 = .ok (.invokestatic 86, 3) := by decide +kernel
theorem dX7_sleep_29 : decode cX7_sleep 29 = .ok (.ifCond .eq 14, 3) := by decide +kernel
theorem dX7_sleep_32 : decode cX7_sleep 32 = .ok (.aload_n 0, 1) := by decide +kernel
theorem dX7_sleep_33 : decode cX7_sleep 33 = .ok (.iload_n 1, 1) := by decide +kernel
theorem dX7_sleep_34 : decode cX7_sleep 34 = .ok (.iload_n 2, 1) := by decide +kernel
theorem dX7_sleep_35 : decode cX7_sleep 35 = .ok (.iload_n 3, 1) := by decide +kernel
theorem dX7_sleep_36 : decode cX7_sleep 36 = .ok (.iconst 0, 1) := by decide +kernel
theorem dX7_sleep_37 : decode cX7_sleep 37 = .ok (.invokevirtual 239, 3) := by decide +kernel
theorem dX7_sleep_40 : decode cX7_sleep 40 = .ok (.goto 5, 3) := by decide +kernel
theorem dX7_sleep_43 : decode cX7_sleep 43 = .ok (.bipush (-2), 2) := by decide +kernel
theorem dX7_sleep_45 : decode cX7_sleep 45 = .ok (.ireturn, 1) := by decide +kernel
theorem dX7_hide_0 : decode cX7_hide 0 = .ok (.aload_n 0, 1) := by decide +kernel
theorem dX7_hide_1 : decode cX7_hide 1 = .ok (.iload_n 1, 1) := by decide +kernel
theorem dX7_hide_2 : decode cX7_hide 2 = .ok (.invokevirtual 106, 3) := by decide +kernel
theorem dX7_hide_5 : decode cX7_hide 5 = .ok (.ifCond .ne 5, 3) := by decide +kernel
theorem dX7_hide_8 : decode cX7_hide 8 = .ok (.iconst (-1), 1) := by decide +kernel
theorem dX7_hide_9 : decode cX7_hide 9 = .ok (.ireturn, 1) := by decide +kernel
theorem dX7_hide_10 : decode cX7_hide 10 = .ok (.iload_n 2, 1) := by decide +kernel
theorem dX7_hide_11 : decode cX7_hide 11 = .ok (.i2l, 1) := by decide +kernel
theorem dX7_hide_12 : decode cX7_hide 12 = .ok (.lconst 0, 1) := by decide +kernel
theorem dX7_hide_13 : decode cX7_hide 13 = .ok (.ldc2_w 237, 3) := by decide +kernel
theorem dX7_hide_16 : decode cX7_hide 16 = .ok (.invokestatic 86, 3) := by decide +kernel
theorem dX7_hide_19 : decode cX7_hide 19 = .ok (.ifCond .eq 24, 3) := by decide +kernel
theorem dX7_hide_22 : decode cX7_hide 22 = .ok (.iload_n 3, 1) := by decide +kernel
theorem dX7_hide_23 : decode cX7_hide 23 = .ok (.i2l, 1) := by decide +kernel
theorem dX7_hide_24 : decode cX7_hide 24 = .ok (.lconst 0, 1) := by decide +kernel
theorem dX7_hide_25 : decode cX7_hide 25 = .ok (.lconst 1, 1) := by decide +kernel
theorem dX7_hide_26 : decode cX7_hide 26 = .ok (.invokestatic 86, 3) := by decide +kernel
theorem dX7_hide_29 : decode cX7_hide 29 = .ok (.ifCond .eq 14, 3) := by decide +kernel
theorem dX7_hide_32 : decode cX7_hide 32 = .ok (.aload_n 0, 1) := by decide +kernel
theorem dX7_hide_33 : decode cX7_hide 33 = .ok (.iload_n 1, 1) := by decide +kernel
theorem dX7_hide_34 : decode cX7_hide 34 = .ok (.iload_n 2, 1) := by decide +kernel
theorem dX7_hide_35 : decode cX7_hide 35 = .ok (.iload_n 3, 1) := by decide +kernel
theorem dX7_hide_36 : decode cX7_hide 36 = .ok (.iconst 1, 1) := by decide +kernel
theorem dX7_hide_37 : decode cX7_hide 37 = .ok (.invokevirtual 239, 3) := by decide +kernel
theorem dX7_hide_40 : decode cX7_hide 40 = .ok (.goto 5, 3) := by decide +kernel
theorem dX7_hide_43 : decode cX7_hide 43 = .ok (.bipush (-2), 2) := by decide +kernel
theorem dX7_hide_45 : decode cX7_hide 45 = .ok (.ireturn, 1) := by decide +kernel
theorem dX7_tale_0 : decode cX7_tale 0 = .ok (.aload_n 0, 1) := by decide +kernel
theorem dX7_tale_1 : decode cX7_tale 1 = .ok (.iload_n 1, 1) := by decide +kernel
theorem dX7_tale_2 : decode cX7_tale 2 = .ok (.invokevirtual 106, 3) := by decide +kernel
theorem dX7_tale_5 : decode cX7_tale 5 = .ok (.ifCond .ne 5, 3) := by decide +kernel
theorem dX7_tale_8 : decode cX7_tale 8 = .ok (.iconst (-1), 1) := by decide +kernel
theorem dX7_tale_9 : decode cX7_tale 9 = .ok (.ireturn, 1) := by decide +kernel
theorem dX7_tale_10 : decode cX7_tale 10 = .ok (.iload_n 2, 1) := by decide +kernel
theorem dX7_tale_11 : decode cX7_tale 11 = .ok (.invokestatic 96, 3) := by decide +kernel
theorem dX7_tale_14 : decode cX7_tale 14 = .ok (.ifCond .ne 6, 3) := by decide +kernel
theorem dX7_tale_17 : decode cX7_tale 17 = .ok (.bipush (-2), 2) := by decide +kernel
theorem dX7_tale_19 : decode cX7_tale 19 = .ok (.ireturn, 1) := by decide +kernel
theorem dX7_tale_20 : decode cX7_tale 20 = .ok (.aload_n 0, 1) := by decide +kernel
theorem dX7_tale_21 : decode cX7_tale 21 = .ok (.getfield 243, 3) := by decide +kernel
theorem dX7_tale_24 : decode cX7_tale 24 = .ok (.bipush 8, 2) := by decide +kernel
theorem dX7_tale_26 : decode cX7_tale 26 = .ok (.if_icmp .ne 6, 3) := by decide +kernel
theorem dX7_tale_29 : decode cX7_tale 29 = .ok (.bipush (-4), 2) := by decide +kernel
theorem dX7_tale_31 : decode cX7_tale 31 = .ok (.ireturn, 1) := by decide +kernel
theorem dX7_tale_32 : decode cX7_tale 32 = .ok (.aload_n 0, 1) := by decide +kernel
theorem dX7_tale_33 : decode cX7_tale 33 = .ok (.getfield 32, 3) := by decide +kernel
theorem dX7_tale_36 : decode cX7_tale 36 = .ok (.aload_n 0, 1) := by decide +kernel
theorem dX7_tale_37 : decode cX7_tale 37 = .ok (.getfield 243, 3) := by decide +kernel
theorem dX7_tale_40 : decode cX7_tale 40 = .ok (.iload_n 1, 1) := by decide +kernel
theorem dX7_tale_41 : decode cX7_tale 41 = .ok (.iastore, 1) := by decide +kernel
theorem dX7_tale_42 : decode cX7_tale 42 = .ok (.aload_n 0, 1) := by decide +kernel
theorem dX7_tale_43 : decode cX7_tale 43 = .ok (.getfield 35, 3) := by decide +kernel
theorem dX7_tale_46 : decode cX7_tale 46 = .ok (.aload_n 0, 1) := by decide +kernel
theorem dX7_tale_47 : decode cX7_tale 47 = .ok (.getfield 243, 3) := by decide +kernel
theorem dX7_tale_50 : decode cX7_tale 50 = .ok (.iload_n 2, 1) := by decide +kernel
theorem dX7_tale_51 : decode cX7_tale 51 = .ok (.iastore, 1) := by decide +kernel
theorem dX7_tale_52 : decode cX7_tale 52 = .ok (.aload_n 0, 1) := by decide +kernel
theorem dX7_tale_53 : decode cX7_tale 53 = .ok (.getfield 38, 3) := by decide +kernel
theorem dX7_tale_56 : decode cX7_tale 56 = .ok (.aload_n 0, 1) := by decide +kernel
theorem dX7_tale_57 : decode cX7_tale 57 = .ok (.getfield 243, 3) := by decide +kernel
theorem dX7_tale_60 : decode cX7_tale 60 = .ok (.iload_n 3, 1) := by decide +kernel
theorem dX7_tale_61 : decode cX7_tale 61 = .ok (.ifCond .eq 7, 3) := by decide +kernel
theorem dX7_tale_64 : decode cX7_tale 64 = .ok (.iconst 1, 1) := by decide +kernel
theorem dX7_tale_65 : decode cX7_tale 65 = .ok (.goto 4, 3) := by decide +kernel
theorem dX7_tale_68 : decode cX7_tale 68 = .ok (.iconst 0, 1) := by decide +kernel
theorem dX7_tale_69 : decode cX7_tale 69 = .ok (.iastore, 1) := by decide +kernel
theorem dX7_tale_70 : decode cX7_tale 70 = .ok (.aload_n 0, 1) := by decide +kernel
theorem dX7_tale_71 : decode cX7_tale 71 = .ok (.dup, 1) := by decide +kernel
theorem dX7_tale_72 : decode cX7_tale 72 = .ok (.getfield 243, 3) := by decide +kernel
theorem dX7_tale_75 : decode cX7_tale 75 = .ok (.iconst 1, 1) := by decide +kernel
theorem dX7_tale_76 : decode cX7_tale 76 = .ok (.iadd, 1) := by decide +kernel
theorem dX7_tale_77 : decode cX7_tale 77 = .ok (.putfield 243, 3) := by decide +kernel
theorem dX7_tale_80 : decode cX7_tale 80 = .ok (.aload_n 0, 1) := by decide +kernel
theorem dX7_tale_81 : decode cX7_tale 81 = .ok (.getfield 243, 3) := by decide +kernel
theorem dX7_tale_84 : decode cX7_tale 84 = .ok (.ireturn, 1) := by decide +kernel
theorem dX7_hush_0 : decode cX7_hush 0 = .ok (.aload_n 0, 1) := by decide +kernel
theorem dX7_hush_1 : decode cX7_hush 1 = .ok (.getfield 243, 3) := by decide +kernel
theorem dX7_hush_4 : decode cX7_hush 4 = .ok (.istore_n 1, 1) := by decide +kernel
theorem dX7_hush_5 : decode cX7_hush 5 = .ok (.aload_n 0, 1) := by decide +kernel
theorem dX7_hush_6 : decode cX7_hush 6 = .ok (.iconst 0, 1) := by decide +kernel
theorem dX7_hush_7 : decode cX7_hush 7 = .ok (.putfield 243, 3) := by decide +kernel
theorem dX7_hush_10 : decode cX7_hush 10 = .ok (.iload_n 1, 1) := by decide +kernel
theorem dX7_hush_11 : decode cX7_hush 11 = .ok (.ireturn, 1) := by decide +kernel
theorem dX7_meant_0 : decode cX7_meant 0 = .ok (.aload_n 0, 1) := by decide +kernel
theorem dX7_meant_1 : decode cX7_meant 1 = .ok (.getfield 38, 3) := by decide +kernel
theorem dX7_meant_4 : decode cX7_meant 4 = .ok (.iload_n 1, 1) := by decide +kernel
theorem dX7_meant_5 : decode cX7_meant 5 = .ok (.iaload, 1) := by decide +kernel
theorem dX7_meant_6 : decode cX7_meant 6 = .ok (.iload_n 2, 1) := by decide +kernel
theorem dX7_meant_7 : decode cX7_meant 7 = .ok (.aload_n 0, 1) := by decide +kernel
theorem dX7_meant_8 : decode cX7_meant 8 = .ok (.getfield 32, 3) := by decide +kernel
theorem dX7_meant_11 : decode cX7_meant 11 = .ok (.iload_n 1, 1) := by decide +kernel
theorem dX7_meant_12 : decode cX7_meant 12 = .ok (.iaload, 1) := by decide +kernel
theorem dX7_meant_13 : decode cX7_meant 13 = .ok (.ishr, 1) := by decide +kernel
theorem dX7_meant_14 : decode cX7_meant 14 = .ok (.iconst 1, 1) := by decide +kernel
theorem dX7_meant_15 : decode cX7_meant 15 = .ok (.iand, 1) := by decide +kernel
theorem dX7_meant_16 : decode cX7_meant 16 = .ok (.ixor, 1) := by decide +kernel
theorem dX7_meant_17 : decode cX7_meant 17 = .ok (.ireturn, 1) := by decide +kernel
theorem dX7_canBe_0 : decode cX7_canBe 0 = .ok (.iconst 1, 1) := by decide +kernel
theorem dX7_canBe_1 : decode cX7_canBe 1 = .ok (.istore_n 2, 1) := by decide +kernel
theorem dX7_canBe_2 : decode cX7_canBe 2 = .ok (.iconst 0, 1) := by decide +kernel
theorem dX7_canBe_3 : decode cX7_canBe 3 = .ok (.istore_n 3, 1) := by decide +kernel
theorem dX7_canBe_4 : decode cX7_canBe 4 = .ok (.iload_n 3, 1) := by decide +kernel
theorem dX7_canBe_5 : decode cX7_canBe 5 = .ok (.aload_n 0, 1) := by decide +kernel
theorem dX7_canBe_6 : decode cX7_canBe 6 = .ok (.getfield 243, 3) := by decide +kernel
theorem dX7_canBe_9 : decode cX7_canBe 9 = .ok (.if_icmp .ge 66, 3) := by decide +kernel
theorem dX7_canBe_12 : decode cX7_canBe 12 = .ok (.iconst 0, 1) := by decide +kernel
theorem dX7_canBe_13 : decode cX7_canBe 13 = .ok (.istore 4, 2) := by decide +kernel
theorem dX7_canBe_15 : decode cX7_canBe 15 = .ok (.iload 4, 2) := by decide +kernel
theorem dX7_canBe_17 : decode cX7_canBe 17 = .ok (.iload_n 3, 1) := by decide +kernel
theorem dX7_canBe_18 : decode cX7_canBe 18 = .ok (.if_icmp .ge 51, 3) := by decide +kernel
theorem dX7_canBe_21 : decode cX7_canBe 21 = .ok (.iload_n 2, 1) := by decide +kernel
theorem dX7_canBe_22 : decode cX7_canBe 22 = .ok (.ifCond .eq 39, 3) := by decide +kernel
theorem dX7_canBe_25 : decode cX7_canBe 25 = .ok (.aload_n 0, 1) := by decide +kernel
theorem dX7_canBe_26 : decode cX7_canBe 26 = .ok (.getfield 35, 3) := by decide +kernel
theorem dX7_canBe_29 : decode cX7_canBe 29 = .ok (.iload_n 3, 1) := by decide +kernel
theorem dX7_canBe_30 : decode cX7_canBe 30 = .ok (.iaload, 1) := by decide +kernel
theorem dX7_canBe_31 : decode cX7_canBe 31 = .ok (.aload_n 0, 1) := by decide +kernel
theorem dX7_canBe_32 : decode cX7_canBe 32 = .ok (.getfield 35, 3) := by decide +kernel
theorem dX7_canBe_35 : decode cX7_canBe 35 = .ok (.iload 4, 2) := by decide +kernel
theorem dX7_canBe_37 : decode cX7_canBe 37 = .ok (.iaload, 1) := by decide +kernel
theorem dX7_canBe_38 : decode cX7_canBe 38 = .ok (.if_icmp .ne 19, 3) := by decide +kernel
theorem dX7_canBe_41 : decode cX7_canBe 41 = .ok (.aload_n 0, 1) := by decide +kernel
theorem dX7_canBe_42 : decode cX7_canBe 42 = .ok (.iload_n 3, 1) := by decide +kernel
theorem dX7_canBe_43 : decode cX7_canBe 43 = .ok (.iload_n 1, 1) := by decide +kernel
theorem dX7_canBe_44 : decode cX7_canBe 44 = .ok (.invokevirtual 246, 3) := by decide +kernel
theorem dX7_canBe_47 : decode cX7_canBe 47 = .ok (.aload_n 0, 1) := by decide +kernel
theorem dX7_canBe_48 : decode cX7_canBe 48 = .ok (.iload 4, 2) := by decide +kernel
theorem dX7_canBe_50 : decode cX7_canBe 50 = .ok (.iload_n 1, 1) := by decide +kernel
theorem dX7_canBe_51 : decode cX7_canBe 51 = .ok (.invokevirtual 246, 3) := by decide +kernel
theorem dX7_canBe_54 : decode cX7_canBe 54 = .ok (.if_icmp .ne 7, 3) := by decide +kernel
theorem dX7_canBe_57 : decode cX7_canBe 57 = .ok (.iconst 1, 1) := by decide +kernel
theorem dX7_canBe_58 : decode cX7_canBe 58 = .ok (.goto 4, 3) := by decide +kernel
theorem dX7_canBe_61 : decode cX7_canBe 61 = .ok (.iconst 0, 1) := by decide +kernel
theorem dX7_canBe_62 : decode cX7_canBe 62 = .ok (.istore_n 2, 1) := by decide +kernel
theorem dX7_canBe_63 : decode cX7_canBe 63 = .ok (.iinc 4 1, 3) := by decide +kernel
theorem dX7_canBe_66 : decode cX7_canBe 66 = .ok (.goto (-51), 3) := by decide +kernel
theorem dX7_canBe_69 : decode cX7_canBe 69 = .ok (.iinc 3 1, 3) := by decide +kernel
theorem dX7_canBe_72 : decode cX7_canBe 72 = .ok (.goto (-68), 3) := by decide +kernel
theorem dX7_canBe_75 : decode cX7_canBe 75 = .ok (.iload_n 2, 1) := by decide +kernel
theorem dX7_canBe_76 : decode cX7_canBe 76 = .ok (.ireturn, 1) := by decide +kernel
theorem dX7_liars_0 : decode cX7_liars 0 = .ok (.iload_n 1, 1) := by decide +kernel
theorem dX7_liars_1 : decode cX7_liars 1 = .ok (.i2l, 1) := by decide +kernel
theorem dX7_liars_2 : decode cX7_liars 2 = .ok (.lconst 0, 1) := by decide +kernel
theorem dX7_liars_3 : decode cX7_liars 3 = .ok (.lconst 1, 1) := by decide +kernel
theorem dX7_liars_4 : decode cX7_liars 4 = .ok (.invokestatic 86, 3) := by decide +kernel
theorem dX7_liars_7 : decode cX7_liars 7 = .ok (.ifCond .ne 6, 3) := by decide +kernel
theorem dX7_liars_10 : decode cX7_liars 10 = .ok (.bipush (-2), 2) := by decide +kernel
theorem dX7_liars_12 : decode cX7_liars 12 = .ok (.ireturn, 1) := by decide +kernel
theorem dX7_liars_13 : decode cX7_liars 13 = .ok (.bipush (-6), 2) := by decide +kernel
theorem dX7_liars_15 : decode cX7_liars 15 = .ok (.istore_n 2, 1) := by decide +kernel
theorem dX7_liars_16 : decode cX7_liars 16 = .ok (.iconst 0, 1) := by decide +kernel
theorem dX7_liars_17 : decode cX7_liars 17 = .ok (.istore_n 3, 1) := by decide +kernel
theorem dX7_liars_18 : decode cX7_liars 18 = .ok (.iload_n 3, 1) := by decide +kernel
theorem dX7_liars_19 : decode cX7_liars 19 = .ok (.bipush 64, 2) := by decide +kernel
theorem dX7_liars_21 : decode cX7_liars 21 = .ok (.if_icmp .ge 50, 3) := by decide +kernel
theorem dX7_liars_24 : decode cX7_liars 24 = .ok (.iload_n 2, 1) := by decide +kernel
theorem dX7_liars_25 : decode cX7_liars 25 = .ok (.ifCond .lt 14, 3) := by decide +kernel
theorem dX7_liars_28 : decode cX7_liars 28 = .ok (.iload_n 3, 1) := by decide +kernel
theorem dX7_liars_29 : decode cX7_liars 29 = .ok (.invokestatic 102, 3) := by decide +kernel
theorem dX7_liars_32 : decode cX7_liars 32 = .ok (.iload_n 2, 1) := by decide +kernel
theorem dX7_liars_33 : decode cX7_liars 33 = .ok (.invokestatic 102, 3) := by decide +kernel
theorem dX7_liars_36 : decode cX7_liars 36 = .ok (.if_icmp .ge 7, 3) := by decide +kernel
theorem dX7_liars_39 : decode cX7_liars 39 = .ok (.iconst 1, 1) := by decide +kernel
theorem dX7_liars_40 : decode cX7_liars 40 = .ok (.goto 4, 3) := by decide +kernel
theorem dX7_liars_43 : decode cX7_liars 43 = .ok (.iconst 0, 1) := by decide +kernel
theorem dX7_liars_44 : decode cX7_liars 44 = .ok (.istore 4, 2) := by decide +kernel
theorem dX7_liars_46 : decode cX7_liars 46 = .ok (.iload 4, 2) := by decide +kernel
theorem dX7_liars_48 : decode cX7_liars 48 = .ok (.ifCond .eq 15, 3) := by decide +kernel
theorem dX7_liars_51 : decode cX7_liars 51 = .ok (.aload_n 0, 1) := by decide +kernel
theorem dX7_liars_52 : decode cX7_liars 52 = .ok (.iload_n 3, 1) := by decide +kernel
theorem dX7_liars_53 : decode cX7_liars 53 = .ok (.invokevirtual 249, 3) := by decide +kernel
theorem dX7_liars_56 : decode cX7_liars 56 = .ok (.ifCond .eq 7, 3) := by decide +kernel
theorem dX7_liars_59 : decode cX7_liars 59 = .ok (.iload_n 3, 1) := by decide +kernel
theorem dX7_liars_60 : decode cX7_liars 60 = .ok (.goto 4, 3) := by decide +kernel
theorem dX7_liars_63 : decode cX7_liars 63 = .ok (.iload_n 2, 1) := by decide +kernel
theorem dX7_liars_64 : decode cX7_liars 64 = .ok (.istore_n 2, 1) := by decide +kernel
theorem dX7_liars_65 : decode cX7_liars 65 = .ok (.iinc 3 1, 3) := by decide +kernel
theorem dX7_liars_68 : decode cX7_liars 68 = .ok (.goto (-50), 3) := by decide +kernel
theorem dX7_liars_71 : decode cX7_liars 71 = .ok (.iload_n 2, 1) := by decide +kernel
theorem dX7_liars_72 : decode cX7_liars 72 = .ok (.ifCond .lt 8, 3) := by decide +kernel
theorem dX7_liars_75 : decode cX7_liars 75 = .ok (.iload_n 1, 1) := by decide +kernel
theorem dX7_liars_76 : decode cX7_liars 76 = .ok (.iconst 1, 1) := by decide +kernel
theorem dX7_liars_77 : decode cX7_liars 77 = .ok (.if_icmp .ne 7, 3) := by decide +kernel
theorem dX7_liars_80 : decode cX7_liars 80 = .ok (.iload_n 2, 1) := by decide +kernel
theorem dX7_liars_81 : decode cX7_liars 81 = .ok (.goto 7, 3) := by decide +kernel
theorem dX7_liars_84 : decode cX7_liars 84 = .ok (.iload_n 2, 1) := by decide +kernel
theorem dX7_liars_85 : decode cX7_liars 85 = .ok (.invokestatic 102, 3) := by decide +kernel
theorem dX7_liars_88 : decode cX7_liars 88 = .ok (.ireturn, 1) := by decide +kernel
theorem dX7_goldOf_0 : decode cX7_goldOf 0 = .ok (.iconst 0, 1) := by decide +kernel
theorem dX7_goldOf_1 : decode cX7_goldOf 1 = .ok (.istore_n 3, 1) := by decide +kernel
theorem dX7_goldOf_2 : decode cX7_goldOf 2 = .ok (.iconst 0, 1) := by decide +kernel
theorem dX7_goldOf_3 : decode cX7_goldOf 3 = .ok (.istore 4, 2) := by decide +kernel
theorem dX7_goldOf_5 : decode cX7_goldOf 5 = .ok (.iload 4, 2) := by decide +kernel
theorem dX7_goldOf_7 : decode cX7_goldOf 7 = .ok (.bipush 64, 2) := by decide +kernel
theorem dX7_goldOf_9 : decode cX7_goldOf 9 = .ok (.if_icmp .ge 34, 3) := by decide +kernel
theorem dX7_goldOf_12 : decode cX7_goldOf 12 = .ok (.iload_n 3, 1) := by decide +kernel
theorem dX7_goldOf_13 : decode cX7_goldOf 13 = .ok (.lload_n 1, 1) := by decide +kernel
theorem dX7_goldOf_14 : decode cX7_goldOf 14 = .ok (.iload 4, 2) := by decide +kernel
theorem dX7_goldOf_16 : decode cX7_goldOf 16 = .ok (.lshr, 1) := by decide +kernel
theorem dX7_goldOf_17 : decode cX7_goldOf 17 = .ok (.lconst 1, 1) := by decide +kernel
theorem dX7_goldOf_18 : decode cX7_goldOf 18 = .ok (.land, 1) := by decide +kernel
theorem dX7_goldOf_19 : decode cX7_goldOf 19 = .ok (.lconst 1, 1) := by decide +kernel
theorem dX7_goldOf_20 : decode cX7_goldOf 20 = .ok (.lcmp, 1) := by decide +kernel
theorem dX7_goldOf_21 : decode cX7_goldOf 21 = .ok (.ifCond .ne 13, 3) := by decide +kernel
theorem dX7_goldOf_24 : decode cX7_goldOf 24 = .ok (.aload_n 0, 1) := by decide +kernel
theorem dX7_goldOf_25 : decode cX7_goldOf 25 = .ok (.getfield 7, 3) := by decide +kernel
theorem dX7_goldOf_28 : decode cX7_goldOf 28 = .ok (.iload 4, 2) := by decide +kernel
theorem dX7_goldOf_30 : decode cX7_goldOf 30 = .ok (.iaload, 1) := by decide +kernel
theorem dX7_goldOf_31 : decode cX7_goldOf 31 = .ok (.goto 4, 3) := by decide +kernel
theorem dX7_goldOf_34 : decode cX7_goldOf 34 = .ok (.iconst 0, 1) := by decide +kernel
theorem dX7_goldOf_35 : decode cX7_goldOf 35 = .ok (.iadd, 1) := by decide +kernel
theorem dX7_goldOf_36 : decode cX7_goldOf 36 = .ok (.istore_n 3, 1) := by decide +kernel
theorem dX7_goldOf_37 : decode cX7_goldOf 37 = .ok (.iinc 4 1, 3) := by decide +kernel
theorem dX7_goldOf_40 : decode cX7_goldOf 40 = .ok (.goto (-35), 3) := by decide +kernel
theorem dX7_goldOf_43 : decode cX7_goldOf 43 = .ok (.iload_n 3, 1) := by decide +kernel
theorem dX7_goldOf_44 : decode cX7_goldOf 44 = .ok (.ireturn, 1) := by decide +kernel
theorem dX7_areTwos_0 : decode cX7_areTwos 0 = .ok (.iload_n 1, 1) := by decide +kernel
theorem dX7_areTwos_1 : decode cX7_areTwos 1 = .ok (.istore_n 2, 1) := by decide +kernel
theorem dX7_areTwos_2 : decode cX7_areTwos 2 = .ok (.iload_n 1, 1) := by decide +kernel
theorem dX7_areTwos_3 : decode cX7_areTwos 3 = .ok (.i2l, 1) := by decide +kernel
theorem dX7_areTwos_4 : decode cX7_areTwos 4 = .ok (.lconst 0, 1) := by decide +kernel
theorem dX7_areTwos_5 : decode cX7_areTwos 5 = .ok (.ldc2_w 252, 3) := by decide +kernel
theorem dX7_areTwos_8 : decode cX7_areTwos 8 = .ok (.invokestatic 86, 3) := by decide +kernel
theorem dX7_areTwos_11 : decode cX7_areTwos 11 = .ok (.istore_n 3, 1) := by decide +kernel
theorem dX7_areTwos_12 : decode cX7_areTwos 12 = .ok (.iconst 5, 1) := by decide +kernel
theorem dX7_areTwos_13 : decode cX7_areTwos 13 = .ok (.istore 4, 2) := by decide +kernel
theorem dX7_areTwos_15 : decode cX7_areTwos 15 = .ok (.iload 4, 2) := by decide +kernel
theorem dX7_areTwos_17 : decode cX7_areTwos 17 = .ok (.ifCond .lt 53, 3) := by decide +kernel
theorem dX7_areTwos_20 : decode cX7_areTwos 20 = .ok (.aload_n 0, 1) := by decide +kernel
theorem dX7_areTwos_21 : decode cX7_areTwos 21 = .ok (.getfield 65, 3) := by decide +kernel
theorem dX7_areTwos_24 : decode cX7_areTwos 24 = .ok (.iload 4, 2) := by decide +kernel
theorem dX7_areTwos_26 : decode cX7_areTwos 26 = .ok (.iload_n 2, 1) := by decide +kernel
theorem dX7_areTwos_27 : decode cX7_areTwos 27 = .ok (.bipush 10, 2) := by decide +kernel
theorem dX7_areTwos_29 : decode cX7_areTwos 29 = .ok (.irem, 1) := by decide +kernel
theorem dX7_areTwos_30 : decode cX7_areTwos 30 = .ok (.iastore, 1) := by decide +kernel
theorem dX7_areTwos_31 : decode cX7_areTwos 31 = .ok (.iload_n 2, 1) := by decide +kernel
theorem dX7_areTwos_32 : decode cX7_areTwos 32 = .ok (.bipush 10, 2) := by decide +kernel
theorem dX7_areTwos_34 : decode cX7_areTwos 34 = .ok (.idiv, 1) := by decide +kernel
theorem dX7_areTwos_35 : decode cX7_areTwos 35 = .ok (.istore_n 2, 1) := by decide +kernel
theorem dX7_areTwos_36 : decode cX7_areTwos 36 = .ok (.iload_n 3, 1) := by decide +kernel
theorem dX7_areTwos_37 : decode cX7_areTwos 37 = .ok (.ifCond .eq 25, 3) := by decide +kernel
theorem dX7_areTwos_40 : decode cX7_areTwos 40 = .ok (.aload_n 0, 1) := by decide +kernel
theorem dX7_areTwos_41 : decode cX7_areTwos 41 = .ok (.getfield 65, 3) := by decide +kernel
theorem dX7_areTwos_44 : decode cX7_areTwos 44 = .ok (.iload 4, 2) := by decide +kernel
theorem dX7_areTwos_46 : decode cX7_areTwos 46 = .ok (.iaload, 1) := by decide +kernel
theorem dX7_areTwos_47 : decode cX7_areTwos 47 = .ok (.i2l, 1) := by decide +kernel
theorem dX7_areTwos_48 : decode cX7_areTwos 48 = .ok (.lconst 0, 1) := by decide +kernel
theorem dX7_areTwos_49 : decode cX7_areTwos 49 = .ok (.ldc2_w 90, 3) := by decide +kernel
theorem dX7_areTwos_52 : decode cX7_areTwos 52 = .ok (.invokestatic 86, 3) := by decide +kernel
theorem dX7_areTwos_55 : decode cX7_areTwos 55 = .ok (.ifCond .eq 7, 3) := by decide +kernel
theorem dX7_areTwos_58 : decode cX7_areTwos 58 = .ok (.iconst 1, 1) := by decide +kernel
theorem dX7_areTwos_59 : decode cX7_areTwos 59 = .ok (.goto 4, 3) := by decide +kernel
theorem dX7_areTwos_62 : decode cX7_areTwos 62 = .ok (.iconst 0, 1) := by decide +kernel
theorem dX7_areTwos_63 : decode cX7_areTwos 63 = .ok (.istore_n 3, 1) := by decide +kernel
theorem dX7_areTwos_64 : decode cX7_areTwos 64 = .ok (.iinc 4 (-1), 3) := by decide +kernel
theorem dX7_areTwos_67 : decode cX7_areTwos 67 = .ok (.goto (-52), 3) := by decide +kernel
theorem dX7_areTwos_70 : decode cX7_areTwos 70 = .ok (.iconst 0, 1) := by decide +kernel
theorem dX7_areTwos_71 : decode cX7_areTwos 71 = .ok (.istore 4, 2) := by decide +kernel
theorem dX7_areTwos_73 : decode cX7_areTwos 73 = .ok (.iload 4, 2) := by decide +kernel
theorem dX7_areTwos_75 : decode cX7_areTwos 75 = .ok (.bipush 6, 2) := by decide +kernel
theorem dX7_areTwos_77 : decode cX7_areTwos 77 = .ok (.if_icmp .ge 57, 3) := by decide +kernel
theorem dX7_areTwos_80 : decode cX7_areTwos 80 = .ok (.iload_n 3, 1) := by decide +kernel
theorem dX7_areTwos_81 : decode cX7_areTwos 81 = .ok (.ifCond .eq 53, 3) := by decide +kernel
theorem dX7_areTwos_84 : decode cX7_areTwos 84 = .ok (.aload_n 0, 1) := by decide +kernel
theorem dX7_areTwos_85 : decode cX7_areTwos 85 = .ok (.getfield 65, 3) := by decide +kernel
theorem dX7_areTwos_88 : decode cX7_areTwos 88 = .ok (.aload_n 0, 1) := by decide +kernel
theorem dX7_areTwos_89 : decode cX7_areTwos 89 = .ok (.getfield 65, 3) := by decide +kernel
theorem dX7_areTwos_92 : decode cX7_areTwos 92 = .ok (.iload 4, 2) := by decide +kernel
theorem dX7_areTwos_94 : decode cX7_areTwos 94 = .ok (.iaload, 1) := by decide +kernel
theorem dX7_areTwos_95 : decode cX7_areTwos 95 = .ok (.iaload, 1) := by decide +kernel
theorem dX7_areTwos_96 : decode cX7_areTwos 96 = .ok (.iload 4, 2) := by decide +kernel
theorem dX7_areTwos_98 : decode cX7_areTwos 98 = .ok (.if_icmp .ne 28, 3) := by decide +kernel
theorem dX7_areTwos_101 : decode cX7_areTwos 101 = .ok (.aload_n 0, 1) := by decide +kernel
theorem dX7_areTwos_102 : decode cX7_areTwos 102 = .ok (.iload 4, 2) := by decide +kernel
theorem dX7_areTwos_104 : decode cX7_areTwos 104 = .ok (.invokevirtual 106, 3) := by decide +kernel
theorem dX7_areTwos_107 : decode cX7_areTwos 107 = .ok (.ifCond .ne 15, 3) := by decide +kernel
theorem dX7_areTwos_110 : decode cX7_areTwos 110 = .ok (.aload_n 0, 1) := by decide +kernel
theorem dX7_areTwos_111 : decode cX7_areTwos 111 = .ok (.getfield 65, 3) := by decide +kernel
theorem dX7_areTwos_114 : decode cX7_areTwos 114 = .ok (.iload 4, 2) := by decide +kernel
theorem dX7_areTwos_116 : decode cX7_areTwos 116 = .ok (.iaload, 1) := by decide +kernel
theorem dX7_areTwos_117 : decode cX7_areTwos 117 = .ok (.iload 4, 2) := by decide +kernel
theorem dX7_areTwos_119 : decode cX7_areTwos 119 = .ok (.if_icmp .ne 7, 3) := by decide +kernel
theorem dX7_areTwos_122 : decode cX7_areTwos 122 = .ok (.iconst 1, 1) := by decide +kernel
theorem dX7_areTwos_123 : decode cX7_areTwos 123 = .ok (.goto 4, 3) := by decide +kernel
theorem dX7_areTwos_126 : decode cX7_areTwos 126 = .ok (.iconst 0, 1) := by decide +kernel
theorem dX7_areTwos_127 : decode cX7_areTwos 127 = .ok (.istore_n 3, 1) := by decide +kernel
theorem dX7_areTwos_128 : decode cX7_areTwos 128 = .ok (.iinc 4 1, 3) := by decide +kernel
theorem dX7_areTwos_131 : decode cX7_areTwos 131 = .ok (.goto (-58), 3) := by decide +kernel
theorem dX7_areTwos_134 : decode cX7_areTwos 134 = .ok (.iload_n 3, 1) := by decide +kernel
theorem dX7_areTwos_135 : decode cX7_areTwos 135 = .ok (.ireturn, 1) := by decide +kernel
theorem dX7_halves_0 : decode cX7_halves 0 = .ok (.iload_n 1, 1) := by decide +kernel
theorem dX7_halves_1 : decode cX7_halves 1 = .ok (.iload_n 2, 1) := by decide +kernel
theorem dX7_halves_2 : decode cX7_halves 2 = .ok (.if_icmp .ne 18, 3) := by decide +kernel
theorem dX7_halves_5 : decode cX7_halves 5 = .ok (.iconst 2, 1) := by decide +kernel
theorem dX7_halves_6 : decode cX7_halves 6 = .ok (.aload_n 0, 1) := by decide +kernel
theorem dX7_halves_7 : decode cX7_halves 7 = .ok (.aload_n 0, 1) := by decide +kernel
theorem dX7_halves_8 : decode cX7_halves 8 = .ok (.getfield 19, 3) := by decide +kernel
theorem dX7_halves_11 : decode cX7_halves 11 = .ok (.iload_n 1, 1) := by decide +kernel
theorem dX7_halves_12 : decode cX7_halves 12 = .ok (.laload, 1) := by decide +kernel
theorem dX7_halves_13 : decode cX7_halves 13 = .ok (.invokevirtual 254, 3) := by decide +kernel
theorem dX7_halves_16 : decode cX7_halves 16 = .ok (.imul, 1) := by decide +kernel
theorem dX7_halves_17 : decode cX7_halves 17 = .ok (.goto 20, 3) := by decide +kernel
theorem dX7_halves_20 : decode cX7_halves 20 = .ok (.aload_n 0, 1) := by decide +kernel
theorem dX7_halves_21 : decode cX7_halves 21 = .ok (.aload_n 0, 1) := by decide +kernel
theorem dX7_halves_22 : decode cX7_halves 22 = .ok (.getfield 19, 3) := by decide +kernel
theorem dX7_halves_25 : decode cX7_halves 25 = .ok (.iload_n 1, 1) := by decide +kernel
theorem dX7_halves_26 : decode cX7_halves 26 = .ok (.laload, 1) := by decide +kernel
theorem dX7_halves_27 : decode cX7_halves 27 = .ok (.aload_n 0, 1) := by decide +kernel
theorem dX7_halves_28 : decode cX7_halves 28 = .ok (.getfield 19, 3) := by decide +kernel
theorem dX7_halves_31 : decode cX7_halves 31 = .ok (.iload_n 2, 1) := by decide +kernel
theorem dX7_halves_32 : decode cX7_halves 32 = .ok (.laload, 1) := by decide +kernel
theorem dX7_halves_33 : decode cX7_halves 33 = .ok (.lor, 1) := by decide +kernel
theorem dX7_halves_34 : decode cX7_halves 34 = .ok (.invokevirtual 254, 3) := by decide +kernel
theorem dX7_halves_37 : decode cX7_halves 37 = .ok (.ireturn, 1) := by decide +kernel
theorem dX7_wouldLeave_0 : decode cX7_wouldLeave 0 = .ok (.aload_n 0, 1) := by decide +kernel
theorem dX7_wouldLeave_1 : decode cX7_wouldLeave 1 = .ok (.iload_n 1, 1) := by decide +kernel
theorem dX7_wouldLeave_2 : decode cX7_wouldLeave 2 = .ok (.invokevirtual 106, 3) := by decide +kernel
theorem dX7_wouldLeave_5 : decode cX7_wouldLeave 5 = .ok (.ifCond .eq 25, 3) := by decide +kernel
theorem dX7_wouldLeave_8 : decode cX7_wouldLeave 8 = .ok (.aload_n 0, 1) := by decide +kernel
theorem dX7_wouldLeave_9 : decode cX7_wouldLeave 9 = .ok (.iload_n 2, 1) := by decide +kernel
theorem dX7_wouldLeave_10 : decode cX7_wouldLeave 10 = .ok (.invokevirtual 106, 3) := by decide +kernel
theorem dX7_wouldLeave_13 : decode cX7_wouldLeave 13 = .ok (.ifCond .eq 17, 3) := by decide +kernel
theorem dX7_wouldLeave_16 : decode cX7_wouldLeave 16 = .ok (.aload_n 0, 1) := by decide +kernel
theorem dX7_wouldLeave_17 : decode cX7_wouldLeave 17 = .ok (.getfield 65, 3) := by decide +kernel
theorem dX7_wouldLeave_20 : decode cX7_wouldLeave 20 = .ok (.iload_n 1, 1) := by decide +kernel
theorem dX7_wouldLeave_21 : decode cX7_wouldLeave 21 = .ok (.iaload, 1) := by decide +kernel
theorem dX7_wouldLeave_22 : decode cX7_wouldLeave 22 = .ok (.iload_n 2, 1) := by decide +kernel
theorem dX7_wouldLeave_23 : decode cX7_wouldLeave 23 = .ok (.if_icmp .eq 7, 3) := by decide +kernel
theorem dX7_wouldLeave_26 : decode cX7_wouldLeave 26 = .ok (.iconst 1, 1) := by decide +kernel
theorem dX7_wouldLeave_27 : decode cX7_wouldLeave 27 = .ok (.goto 4, 3) := by decide +kernel
theorem dX7_wouldLeave_30 : decode cX7_wouldLeave 30 = .ok (.iconst 0, 1) := by decide +kernel
theorem dX7_wouldLeave_31 : decode cX7_wouldLeave 31 = .ok (.istore_n 3, 1) := by decide +kernel
theorem dX7_wouldLeave_32 : decode cX7_wouldLeave 32 = .ok (.iload_n 3, 1) := by decide +kernel
theorem dX7_wouldLeave_33 : decode cX7_wouldLeave 33 = .ok (.ifCond .eq 12, 3) := by decide +kernel
theorem dX7_wouldLeave_36 : decode cX7_wouldLeave 36 = .ok (.aload_n 0, 1) := by decide +kernel
theorem dX7_wouldLeave_37 : decode cX7_wouldLeave 37 = .ok (.iload_n 1, 1) := by decide +kernel
theorem dX7_wouldLeave_38 : decode cX7_wouldLeave 38 = .ok (.iload_n 2, 1) := by decide +kernel
theorem dX7_wouldLeave_39 : decode cX7_wouldLeave 39 = .ok (.invokevirtual 258, 3) := by decide +kernel
theorem dX7_wouldLeave_42 : decode cX7_wouldLeave 42 = .ok (.goto 4, 3) := by decide +kernel
theorem dX7_wouldLeave_45 : decode cX7_wouldLeave 45 = .ok (.iconst 0, 1) := by decide +kernel
theorem dX7_wouldLeave_46 : decode cX7_wouldLeave 46 = .ok (.istore 4, 2) := by decide +kernel
theorem dX7_wouldLeave_48 : decode cX7_wouldLeave 48 = .ok (.iload_n 3, 1) := by decide +kernel
theorem dX7_wouldLeave_49 : decode cX7_wouldLeave 49 = .ok (.ifCond .eq 39, 3) := by decide +kernel
theorem dX7_wouldLeave_52 : decode cX7_wouldLeave 52 = .ok (.iload 4, 2) := by decide +kernel
theorem dX7_wouldLeave_54 : decode cX7_wouldLeave 54 = .ok (.aload_n 0, 1) := by decide +kernel
theorem dX7_wouldLeave_55 : decode cX7_wouldLeave 55 = .ok (.iload_n 1, 1) := by decide +kernel
theorem dX7_wouldLeave_56 : decode cX7_wouldLeave 56 = .ok (.aload_n 0, 1) := by decide +kernel
theorem dX7_wouldLeave_57 : decode cX7_wouldLeave 57 = .ok (.getfield 65, 3) := by decide +kernel
theorem dX7_wouldLeave_60 : decode cX7_wouldLeave 60 = .ok (.iload_n 1, 1) := by decide +kernel
theorem dX7_wouldLeave_61 : decode cX7_wouldLeave 61 = .ok (.iaload, 1) := by decide +kernel
theorem dX7_wouldLeave_62 : decode cX7_wouldLeave 62 = .ok (.invokevirtual 258, 3) := by decide +kernel
theorem dX7_wouldLeave_65 : decode cX7_wouldLeave 65 = .ok (.if_icmp .le 23, 3) := by decide +kernel
theorem dX7_wouldLeave_68 : decode cX7_wouldLeave 68 = .ok (.iload 4, 2) := by decide +kernel
theorem dX7_wouldLeave_70 : decode cX7_wouldLeave 70 = .ok (.aload_n 0, 1) := by decide +kernel
theorem dX7_wouldLeave_71 : decode cX7_wouldLeave 71 = .ok (.iload_n 2, 1) := by decide +kernel
theorem dX7_wouldLeave_72 : decode cX7_wouldLeave 72 = .ok (.aload_n 0, 1) := by decide +kernel
theorem dX7_wouldLeave_73 : decode cX7_wouldLeave 73 = .ok (.getfield 65, 3) := by decide +kernel
theorem dX7_wouldLeave_76 : decode cX7_wouldLeave 76 = .ok (.iload_n 2, 1) := by decide +kernel
theorem dX7_wouldLeave_77 : decode cX7_wouldLeave 77 = .ok (.iaload, 1) := by decide +kernel
theorem dX7_wouldLeave_78 : decode cX7_wouldLeave 78 = .ok (.invokevirtual 258, 3) := by decide +kernel
theorem dX7_wouldLeave_81 : decode cX7_wouldLeave 81 = .ok (.if_icmp .le 7, 3) := by decide +kernel
theorem dX7_wouldLeave_84 : decode cX7_wouldLeave 84 = .ok (.iconst 1, 1) := by decide +kernel
theorem dX7_wouldLeave_85 : decode cX7_wouldLeave 85 = .ok (.goto 4, 3) := by decide +kernel
theorem dX7_wouldLeave_88 : decode cX7_wouldLeave 88 = .ok (.iconst 0, 1) := by decide +kernel
theorem dX7_wouldLeave_89 : decode cX7_wouldLeave 89 = .ok (.ireturn, 1) := by decide +kernel
theorem dX7_leaves_0 : decode cX7_leaves 0 = .ok (.aload_n 0, 1) := by decide +kernel
theorem dX7_leaves_1 : decode cX7_leaves 1 = .ok (.iload_n 1, 1) := by decide +kernel
theorem dX7_leaves_2 : decode cX7_leaves 2 = .ok (.invokevirtual 261, 3) := by decide +kernel
theorem dX7_leaves_5 : decode cX7_leaves 5 = .ok (.ifCond .ne 6, 3) := by decide +kernel
theorem dX7_leaves_8 : decode cX7_leaves 8 = .ok (.bipush (-2), 2) := by decide +kernel
theorem dX7_leaves_10 : decode cX7_leaves 10 = .ok (.ireturn, 1) := by decide +kernel
theorem dX7_leaves_11 : decode cX7_leaves 11 = .ok (.iconst 0, 1) := by decide +kernel
theorem dX7_leaves_12 : decode cX7_leaves 12 = .ok (.istore_n 2, 1) := by decide +kernel
theorem dX7_leaves_13 : decode cX7_leaves 13 = .ok (.iload_n 2, 1) := by decide +kernel
theorem dX7_leaves_14 : decode cX7_leaves 14 = .ok (.bipush 6, 2) := by decide +kernel
theorem dX7_leaves_16 : decode cX7_leaves 16 = .ok (.if_icmp .ge 39, 3) := by decide +kernel
theorem dX7_leaves_19 : decode cX7_leaves 19 = .ok (.iload_n 2, 1) := by decide +kernel
theorem dX7_leaves_20 : decode cX7_leaves 20 = .ok (.istore_n 3, 1) := by decide +kernel
theorem dX7_leaves_21 : decode cX7_leaves 21 = .ok (.iload_n 3, 1) := by decide +kernel
theorem dX7_leaves_22 : decode cX7_leaves 22 = .ok (.bipush 6, 2) := by decide +kernel
theorem dX7_leaves_24 : decode cX7_leaves 24 = .ok (.if_icmp .ge 25, 3) := by decide +kernel
theorem dX7_leaves_27 : decode cX7_leaves 27 = .ok (.aload_n 0, 1) := by decide +kernel
theorem dX7_leaves_28 : decode cX7_leaves 28 = .ok (.iload_n 2, 1) := by decide +kernel
theorem dX7_leaves_29 : decode cX7_leaves 29 = .ok (.iload_n 3, 1) := by decide +kernel
theorem dX7_leaves_30 : decode cX7_leaves 30 = .ok (.invokevirtual 264, 3) := by decide +kernel
theorem dX7_leaves_33 : decode cX7_leaves 33 = .ok (.ifCond .eq 10, 3) := by decide +kernel
theorem dX7_leaves_36 : decode cX7_leaves 36 = .ok (.bipush 10, 2) := by decide +kernel
theorem dX7_leaves_38 : decode cX7_leaves 38 = .ok (.iload_n 2, 1) := by decide +kernel
theorem dX7_leaves_39 : decode cX7_leaves 39 = .ok (.imul, 1) := by decide +kernel
theorem dX7_leaves_40 : decode cX7_leaves 40 = .ok (.iload_n 3, 1) := by decide +kernel
theorem dX7_leaves_41 : decode cX7_leaves 41 = .ok (.iadd, 1) := by decide +kernel
theorem dX7_leaves_42 : decode cX7_leaves 42 = .ok (.ireturn, 1) := by decide +kernel
theorem dX7_leaves_43 : decode cX7_leaves 43 = .ok (.iinc 3 1, 3) := by decide +kernel
theorem dX7_leaves_46 : decode cX7_leaves 46 = .ok (.goto (-25), 3) := by decide +kernel
theorem dX7_leaves_49 : decode cX7_leaves 49 = .ok (.iinc 2 1, 3) := by decide +kernel
theorem dX7_leaves_52 : decode cX7_leaves 52 = .ok (.goto (-39), 3) := by decide +kernel
theorem dX7_leaves_55 : decode cX7_leaves 55 = .ok (.bipush (-6), 2) := by decide +kernel
theorem dX7_leaves_57 : decode cX7_leaves 57 = .ok (.ireturn, 1) := by decide +kernel
theorem dX7_isOn_0 : decode cX7_isOn 0 = .ok (.iload_n 1, 1) := by decide +kernel
theorem dX7_isOn_1 : decode cX7_isOn 1 = .ok (.bipush 8, 2) := by decide +kernel
theorem dX7_isOn_3 : decode cX7_isOn 3 = .ok (.irem, 1) := by decide +kernel
theorem dX7_isOn_4 : decode cX7_isOn 4 = .ok (.istore_n 2, 1) := by decide +kernel
theorem dX7_isOn_5 : decode cX7_isOn 5 = .ok (.iload_n 1, 1) := by decide +kernel
theorem dX7_isOn_6 : decode cX7_isOn 6 = .ok (.bipush 8, 2) := by decide +kernel
theorem dX7_isOn_8 : decode cX7_isOn 8 = .ok (.idiv, 1) := by decide +kernel
theorem dX7_isOn_9 : decode cX7_isOn 9 = .ok (.istore_n 3, 1) := by decide +kernel
theorem dX7_isOn_10 : decode cX7_isOn 10 = .ok (.iload_n 0, 1) := by decide +kernel
theorem dX7_isOn_11 : decode cX7_isOn 11 = .ok (.bipush 8, 2) := by decide +kernel
theorem dX7_isOn_13 : decode cX7_isOn 13 = .ok (.if_icmp .ge 16, 3) := by decide +kernel
theorem dX7_isOn_16 : decode cX7_isOn 16 = .ok (.iload_n 3, 1) := by decide +kernel
theorem dX7_isOn_17 : decode cX7_isOn 17 = .ok (.iload_n 0, 1) := by decide +kernel
theorem dX7_isOn_18 : decode cX7_isOn 18 = .ok (.if_icmp .ne 7, 3) := by decide +kernel
theorem dX7_isOn_21 : decode cX7_isOn 21 = .ok (.iconst 1, 1) := by decide +kernel
theorem dX7_isOn_22 : decode cX7_isOn 22 = .ok (.goto 68, 3) := by decide +kernel
theorem dX7_isOn_25 : decode cX7_isOn 25 = .ok (.iconst 0, 1) := by decide +kernel
theorem dX7_isOn_26 : decode cX7_isOn 26 = .ok (.goto 64, 3) := by decide +kernel
theorem dX7_isOn_29 : decode cX7_isOn 29 = .ok (.iload_n 0, 1) := by decide +kernel
theorem dX7_isOn_30 : decode cX7_isOn 30 = .ok (.bipush 16, 2) := by decide +kernel
theorem dX7_isOn_32 : decode cX7_isOn 32 = .ok (.if_icmp .ge 19, 3) := by decide +kernel
theorem dX7_isOn_35 : decode cX7_isOn 35 = .ok (.iload_n 2, 1) := by decide +kernel
theorem dX7_isOn_36 : decode cX7_isOn 36 = .ok (.iload_n 0, 1) := by decide +kernel
theorem dX7_isOn_37 : decode cX7_isOn 37 = .ok (.bipush 8, 2) := by decide +kernel
theorem dX7_isOn_39 : decode cX7_isOn 39 = .ok (.isub, 1) := by decide +kernel
theorem dX7_isOn_40 : decode cX7_isOn 40 = .ok (.if_icmp .ne 7, 3) := by decide +kernel
theorem dX7_isOn_43 : decode cX7_isOn 43 = .ok (.iconst 1, 1) := by decide +kernel
theorem dX7_isOn_44 : decode cX7_isOn 44 = .ok (.goto 46, 3) := by decide +kernel
theorem dX7_isOn_47 : decode cX7_isOn 47 = .ok (.iconst 0, 1) := by decide +kernel
theorem dX7_isOn_48 : decode cX7_isOn 48 = .ok (.goto 42, 3) := by decide +kernel
theorem dX7_isOn_51 : decode cX7_isOn 51 = .ok (.iload_n 0, 1) := by decide +kernel
theorem dX7_isOn_52 : decode cX7_isOn 52 = .ok (.bipush 31, 2) := by decide +kernel
theorem dX7_isOn_54 : decode cX7_isOn 54 = .ok (.if_icmp .ge 21, 3) := by decide +kernel
theorem dX7_isOn_57 : decode cX7_isOn 57 = .ok (.iload_n 2, 1) := by decide +kernel
theorem dX7_isOn_58 : decode cX7_isOn 58 = .ok (.iload_n 3, 1) := by decide +kernel
theorem dX7_isOn_59 : decode cX7_isOn 59 = .ok (.isub, 1) := by decide +kernel
theorem dX7_isOn_60 : decode cX7_isOn 60 = .ok (.iload_n 0, 1) := by decide +kernel
theorem dX7_isOn_61 : decode cX7_isOn 61 = .ok (.bipush 23, 2) := by decide +kernel
theorem dX7_isOn_63 : decode cX7_isOn 63 = .ok (.isub, 1) := by decide +kernel
theorem dX7_isOn_64 : decode cX7_isOn 64 = .ok (.if_icmp .ne 7, 3) := by decide +kernel
theorem dX7_isOn_67 : decode cX7_isOn 67 = .ok (.iconst 1, 1) := by decide +kernel
theorem dX7_isOn_68 : decode cX7_isOn 68 = .ok (.goto 22, 3) := by decide +kernel
theorem dX7_isOn_71 : decode cX7_isOn 71 = .ok (.iconst 0, 1) := by decide +kernel
theorem dX7_isOn_72 : decode cX7_isOn 72 = .ok (.goto 18, 3) := by decide +kernel
theorem dX7_isOn_75 : decode cX7_isOn 75 = .ok (.iload_n 2, 1) := by decide +kernel
theorem dX7_isOn_76 : decode cX7_isOn 76 = .ok (.iload_n 3, 1) := by decide +kernel
theorem dX7_isOn_77 : decode cX7_isOn 77 = .ok (.iadd, 1) := by decide +kernel
theorem dX7_isOn_78 : decode cX7_isOn 78 = .ok (.iload_n 0, 1) := by decide +kernel
theorem dX7_isOn_79 : decode cX7_isOn 79 = .ok (.bipush 31, 2) := by decide +kernel
theorem dX7_isOn_81 : decode cX7_isOn 81 = .ok (.isub, 1) := by decide +kernel
theorem dX7_isOn_82 : decode cX7_isOn 82 = .ok (.if_icmp .ne 7, 3) := by decide +kernel
theorem dX7_isOn_85 : decode cX7_isOn 85 = .ok (.iconst 1, 1) := by decide +kernel
theorem dX7_isOn_86 : decode cX7_isOn 86 = .ok (.goto 4, 3) := by decide +kernel
theorem dX7_isOn_89 : decode cX7_isOn 89 = .ok (.iconst 0, 1) := by decide +kernel
theorem dX7_isOn_90 : decode cX7_isOn 90 = .ok (.ireturn, 1) := by decide +kernel
theorem dX7_seen_0 : decode cX7_seen 0 = .ok (.iload_n 1, 1) := by decide +kernel
theorem dX7_seen_1 : decode cX7_seen 1 = .ok (.invokestatic 96, 3) := by decide +kernel
theorem dX7_seen_4 : decode cX7_seen 4 = .ok (.ifCond .ne 6, 3) := by decide +kernel
theorem dX7_seen_7 : decode cX7_seen 7 = .ok (.bipush (-2), 2) := by decide +kernel
theorem dX7_seen_9 : decode cX7_seen 9 = .ok (.ireturn, 1) := by decide +kernel
theorem dX7_seen_10 : decode cX7_seen 10 = .ok (.aload_n 0, 1) := by decide +kernel
theorem dX7_seen_11 : decode cX7_seen 11 = .ok (.getfield 267, 3) := by decide +kernel
theorem dX7_seen_14 : decode cX7_seen 14 = .ok (.bipush 8, 2) := by decide +kernel
theorem dX7_seen_16 : decode cX7_seen 16 = .ok (.if_icmp .ne 6, 3) := by decide +kernel
theorem dX7_seen_19 : decode cX7_seen 19 = .ok (.bipush (-4), 2) := by decide +kernel
theorem dX7_seen_21 : decode cX7_seen 21 = .ok (.ireturn, 1) := by decide +kernel
theorem dX7_seen_22 : decode cX7_seen 22 = .ok (.aload_n 0, 1) := by decide +kernel
theorem dX7_seen_23 : decode cX7_seen 23 = .ok (.getfield 41, 3) := by decide +kernel
theorem dX7_seen_26 : decode cX7_seen 26 = .ok (.aload_n 0, 1) := by decide +kernel
theorem dX7_seen_27 : decode cX7_seen 27 = .ok (.getfield 267, 3) := by decide +kernel
theorem dX7_seen_30 : decode cX7_seen 30 = .ok (.iload_n 1, 1) := by decide +kernel
theorem dX7_seen_31 : decode cX7_seen 31 = .ok (.iastore, 1) := by decide +kernel
theorem dX7_seen_32 : decode cX7_seen 32 = .ok (.aload_n 0, 1) := by decide +kernel
theorem dX7_seen_33 : decode cX7_seen 33 = .ok (.getfield 44, 3) := by decide +kernel
theorem dX7_seen_36 : decode cX7_seen 36 = .ok (.aload_n 0, 1) := by decide +kernel
theorem dX7_seen_37 : decode cX7_seen 37 = .ok (.getfield 267, 3) := by decide +kernel
theorem dX7_seen_40 : decode cX7_seen 40 = .ok (.iload_n 2, 1) := by decide +kernel
theorem dX7_seen_41 : decode cX7_seen 41 = .ok (.ifCond .eq 7, 3) := by decide +kernel
theorem dX7_seen_44 : decode cX7_seen 44 = .ok (.iconst 1, 1) := by decide +kernel
theorem dX7_seen_45 : decode cX7_seen 45 = .ok (.goto 4, 3) := by decide +kernel
theorem dX7_seen_48 : decode cX7_seen 48 = .ok (.iconst 0, 1) := by decide +kernel
theorem dX7_seen_49 : decode cX7_seen 49 = .ok (.iastore, 1) := by decide +kernel
theorem dX7_seen_50 : decode cX7_seen 50 = .ok (.aload_n 0, 1) := by decide +kernel
theorem dX7_seen_51 : decode cX7_seen 51 = .ok (.dup, 1) := by decide +kernel
theorem dX7_seen_52 : decode cX7_seen 52 = .ok (.getfield 267, 3) := by decide +kernel
theorem dX7_seen_55 : decode cX7_seen 55 = .ok (.iconst 1, 1) := by decide +kernel
theorem dX7_seen_56 : decode cX7_seen 56 = .ok (.iadd, 1) := by decide +kernel
theorem dX7_seen_57 : decode cX7_seen 57 = .ok (.putfield 267, 3) := by decide +kernel
theorem dX7_seen_60 : decode cX7_seen 60 = .ok (.aload_n 0, 1) := by decide +kernel
theorem dX7_seen_61 : decode cX7_seen 61 = .ok (.getfield 267, 3) := by decide +kernel
theorem dX7_seen_64 : decode cX7_seen 64 = .ok (.ireturn, 1) := by decide +kernel
theorem dX7_forget_0 : decode cX7_forget 0 = .ok (.aload_n 0, 1) := by decide +kernel
theorem dX7_forget_1 : decode cX7_forget 1 = .ok (.getfield 267, 3) := by decide +kernel
theorem dX7_forget_4 : decode cX7_forget 4 = .ok (.istore_n 1, 1) := by decide +kernel
theorem dX7_forget_5 : decode cX7_forget 5 = .ok (.aload_n 0, 1) := by decide +kernel
theorem dX7_forget_6 : decode cX7_forget 6 = .ok (.iconst 0, 1) := by decide +kernel
theorem dX7_forget_7 : decode cX7_forget 7 = .ok (.putfield 267, 3) := by decide +kernel
theorem dX7_forget_10 : decode cX7_forget 10 = .ok (.iload_n 1, 1) := by decide +kernel
theorem dX7_forget_11 : decode cX7_forget 11 = .ok (.ireturn, 1) := by decide +kernel
theorem dX7_fits_0 : decode cX7_fits 0 = .ok (.iconst 1, 1) := by decide +kernel
theorem dX7_fits_1 : decode cX7_fits 1 = .ok (.istore_n 2, 1) := by decide +kernel
theorem dX7_fits_2 : decode cX7_fits 2 = .ok (.iconst 0, 1) := by decide +kernel
theorem dX7_fits_3 : decode cX7_fits 3 = .ok (.istore_n 3, 1) := by decide +kernel
theorem dX7_fits_4 : decode cX7_fits 4 = .ok (.iload_n 3, 1) := by decide +kernel
theorem dX7_fits_5 : decode cX7_fits 5 = .ok (.aload_n 0, 1) := by decide +kernel
theorem dX7_fits_6 : decode cX7_fits 6 = .ok (.getfield 267, 3) := by decide +kernel
theorem dX7_fits_9 : decode cX7_fits 9 = .ok (.if_icmp .ge 47, 3) := by decide +kernel
theorem dX7_fits_12 : decode cX7_fits 12 = .ok (.iload_n 2, 1) := by decide +kernel
theorem dX7_fits_13 : decode cX7_fits 13 = .ok (.ifCond .eq 35, 3) := by decide +kernel
theorem dX7_fits_16 : decode cX7_fits 16 = .ok (.iload_n 1, 1) := by decide +kernel
theorem dX7_fits_17 : decode cX7_fits 17 = .ok (.aload_n 0, 1) := by decide +kernel
theorem dX7_fits_18 : decode cX7_fits 18 = .ok (.getfield 41, 3) := by decide +kernel
theorem dX7_fits_21 : decode cX7_fits 21 = .ok (.iload_n 3, 1) := by decide +kernel
theorem dX7_fits_22 : decode cX7_fits 22 = .ok (.iaload, 1) := by decide +kernel
theorem dX7_fits_23 : decode cX7_fits 23 = .ok (.invokestatic 270, 3) := by decide +kernel
theorem dX7_fits_26 : decode cX7_fits 26 = .ok (.aload_n 0, 1) := by decide +kernel
theorem dX7_fits_27 : decode cX7_fits 27 = .ok (.getfield 44, 3) := by decide +kernel
theorem dX7_fits_30 : decode cX7_fits 30 = .ok (.iload_n 3, 1) := by decide +kernel
theorem dX7_fits_31 : decode cX7_fits 31 = .ok (.iaload, 1) := by decide +kernel
theorem dX7_fits_32 : decode cX7_fits 32 = .ok (.iconst 1, 1) := by decide +kernel
theorem dX7_fits_33 : decode cX7_fits 33 = .ok (.if_icmp .ne 7, 3) := by decide +kernel
theorem dX7_fits_36 : decode cX7_fits 36 = .ok (.iconst 1, 1) := by decide +kernel
theorem dX7_fits_37 : decode cX7_fits 37 = .ok (.goto 4, 3) := by decide +kernel
theorem dX7_fits_40 : decode cX7_fits 40 = .ok (.iconst 0, 1) := by decide +kernel
theorem dX7_fits_41 : decode cX7_fits 41 = .ok (.if_icmp .ne 7, 3) := by decide +kernel
theorem dX7_fits_44 : decode cX7_fits 44 = .ok (.iconst 1, 1) := by decide +kernel
theorem dX7_fits_45 : decode cX7_fits 45 = .ok (.goto 4, 3) := by decide +kernel
theorem dX7_fits_48 : decode cX7_fits 48 = .ok (.iconst 0, 1) := by decide +kernel
theorem dX7_fits_49 : decode cX7_fits 49 = .ok (.istore_n 2, 1) := by decide +kernel
theorem dX7_fits_50 : decode cX7_fits 50 = .ok (.iinc 3 1, 3) := by decide +kernel
theorem dX7_fits_53 : decode cX7_fits 53 = .ok (.goto (-49), 3) := by decide +kernel
theorem dX7_fits_56 : decode cX7_fits 56 = .ok (.iload_n 2, 1) := by decide +kernel
theorem dX7_fits_57 : decode cX7_fits 57 = .ok (.ireturn, 1) := by decide +kernel
theorem dX7_lodes_0 : decode cX7_lodes 0 = .ok (.iconst 0, 1) := by decide +kernel
theorem dX7_lodes_1 : decode cX7_lodes 1 = .ok (.istore_n 2, 1) := by decide +kernel
theorem dX7_lodes_2 : decode cX7_lodes 2 = .ok (.iconst 0, 1) := by decide +kernel
theorem dX7_lodes_3 : decode cX7_lodes 3 = .ok (.istore_n 3, 1) := by decide +kernel
theorem dX7_lodes_4 : decode cX7_lodes 4 = .ok (.iload_n 3, 1) := by decide +kernel
theorem dX7_lodes_5 : decode cX7_lodes 5 = .ok (.bipush 46, 2) := by decide +kernel
theorem dX7_lodes_7 : decode cX7_lodes 7 = .ok (.if_icmp .ge 27, 3) := by decide +kernel
theorem dX7_lodes_10 : decode cX7_lodes 10 = .ok (.aload_n 0, 1) := by decide +kernel
theorem dX7_lodes_11 : decode cX7_lodes 11 = .ok (.iload_n 3, 1) := by decide +kernel
theorem dX7_lodes_12 : decode cX7_lodes 12 = .ok (.invokevirtual 273, 3) := by decide +kernel
theorem dX7_lodes_15 : decode cX7_lodes 15 = .ok (.ifCond .eq 13, 3) := by decide +kernel
theorem dX7_lodes_18 : decode cX7_lodes 18 = .ok (.iload_n 2, 1) := by decide +kernel
theorem dX7_lodes_19 : decode cX7_lodes 19 = .ok (.iload_n 1, 1) := by decide +kernel
theorem dX7_lodes_20 : decode cX7_lodes 20 = .ok (.if_icmp .ne 5, 3) := by decide +kernel
theorem dX7_lodes_23 : decode cX7_lodes 23 = .ok (.iload_n 3, 1) := by decide +kernel
theorem dX7_lodes_24 : decode cX7_lodes 24 = .ok (.ireturn, 1) := by decide +kernel
theorem dX7_lodes_25 : decode cX7_lodes 25 = .ok (.iinc 2 1, 3) := by decide +kernel
theorem dX7_lodes_28 : decode cX7_lodes 28 = .ok (.iinc 3 1, 3) := by decide +kernel
theorem dX7_lodes_31 : decode cX7_lodes 31 = .ok (.goto (-27), 3) := by decide +kernel
theorem dX7_lodes_34 : decode cX7_lodes 34 = .ok (.iload_n 1, 1) := by decide +kernel
theorem dX7_lodes_35 : decode cX7_lodes 35 = .ok (.iconst (-1), 1) := by decide +kernel
theorem dX7_lodes_36 : decode cX7_lodes 36 = .ok (.if_icmp .ne 7, 3) := by decide +kernel
theorem dX7_lodes_39 : decode cX7_lodes 39 = .ok (.iload_n 2, 1) := by decide +kernel
theorem dX7_lodes_40 : decode cX7_lodes 40 = .ok (.goto 5, 3) := by decide +kernel
theorem dX7_lodes_43 : decode cX7_lodes 43 = .ok (.bipush (-6), 2) := by decide +kernel
theorem dX7_lodes_45 : decode cX7_lodes 45 = .ok (.ireturn, 1) := by decide +kernel
theorem dX7_lowest_0 : decode cX7_lowest 0 = .ok (.lload_n 2, 1) := by decide +kernel
theorem dX7_lowest_1 : decode cX7_lowest 1 = .ok (.lstore 5, 2) := by decide +kernel
theorem dX7_lowest_3 : decode cX7_lowest 3 = .ok (.lload_n 0, 1) := by decide +kernel
theorem dX7_lowest_4 : decode cX7_lowest 4 = .ok (.lstore 7, 2) := by decide +kernel
theorem dX7_lowest_6 : decode cX7_lowest 6 = .ok (.lload 7, 2) := by decide +kernel
theorem dX7_lowest_8 : decode cX7_lowest 8 = .ok (.lconst 0, 1) := by decide +kernel
theorem dX7_lowest_9 : decode cX7_lowest 9 = .ok (.lcmp, 1) := by decide +kernel
theorem dX7_lowest_10 : decode cX7_lowest 10 = .ok (.ifCond .eq 21, 3) := by decide +kernel
theorem dX7_lowest_13 : decode cX7_lowest 13 = .ok (.lload 5, 2) := by decide +kernel
theorem dX7_lowest_15 : decode cX7_lowest 15 = .ok (.lload 7, 2) := by decide +kernel
theorem dX7_lowest_17 : decode cX7_lowest 17 = .ok (.lrem, 1) := by decide +kernel
theorem dX7_lowest_18 : decode cX7_lowest 18 = .ok (.lstore 9, 2) := by decide +kernel
theorem dX7_lowest_20 : decode cX7_lowest 20 = .ok (.lload 7, 2) := by decide +kernel
theorem dX7_lowest_22 : decode cX7_lowest 22 = .ok (.lstore 5, 2) := by decide +kernel
theorem dX7_lowest_24 : decode cX7_lowest 24 = .ok (.lload 9, 2) := by decide +kernel
theorem dX7_lowest_26 : decode cX7_lowest 26 = .ok (.lstore 7, 2) := by decide +kernel
theorem dX7_lowest_28 : decode cX7_lowest 28 = .ok (.goto (-22), 3) := by decide +kernel
theorem dX7_lowest_31 : decode cX7_lowest 31 = .ok (.iload 4, 2) := by decide +kernel
theorem dX7_lowest_33 : decode cX7_lowest 33 = .ok (.ifCond .ne 10, 3) := by decide +kernel
theorem dX7_lowest_36 : decode cX7_lowest 36 = .ok (.lload_n 0, 1) := by decide +kernel
theorem dX7_lowest_37 : decode cX7_lowest 37 = .ok (.lload 5, 2) := by decide +kernel
theorem dX7_lowest_39 : decode cX7_lowest 39 = .ok (.ldiv, 1) := by decide +kernel
theorem dX7_lowest_40 : decode cX7_lowest 40 = .ok (.goto 7, 3) := by decide +kernel
theorem dX7_lowest_43 : decode cX7_lowest 43 = .ok (.lload_n 2, 1) := by decide +kernel
theorem dX7_lowest_44 : decode cX7_lowest 44 = .ok (.lload 5, 2) := by decide +kernel
theorem dX7_lowest_46 : decode cX7_lowest 46 = .ok (.ldiv, 1) := by decide +kernel
theorem dX7_lowest_47 : decode cX7_lowest 47 = .ok (.lreturn, 1) := by decide +kernel
theorem dX7_linesOn_0 : decode cX7_linesOn 0 = .ok (.iconst 0, 1) := by decide +kernel
theorem dX7_linesOn_1 : decode cX7_linesOn 1 = .ok (.istore_n 2, 1) := by decide +kernel
theorem dX7_linesOn_2 : decode cX7_linesOn 2 = .ok (.iconst 0, 1) := by decide +kernel
theorem dX7_linesOn_3 : decode cX7_linesOn 3 = .ok (.istore_n 3, 1) := by decide +kernel
theorem dX7_linesOn_4 : decode cX7_linesOn 4 = .ok (.iload_n 3, 1) := by decide +kernel
theorem dX7_linesOn_5 : decode cX7_linesOn 5 = .ok (.bipush 46, 2) := by decide +kernel
theorem dX7_linesOn_7 : decode cX7_linesOn 7 = .ok (.if_icmp .ge 33, 3) := by decide +kernel
theorem dX7_linesOn_10 : decode cX7_linesOn 10 = .ok (.iload_n 2, 1) := by decide +kernel
theorem dX7_linesOn_11 : decode cX7_linesOn 11 = .ok (.iload_n 3, 1) := by decide +kernel
theorem dX7_linesOn_12 : decode cX7_linesOn 12 = .ok (.iload_n 1, 1) := by decide +kernel
theorem dX7_linesOn_13 : decode cX7_linesOn 13 = .ok (.invokestatic 270, 3) := by decide +kernel
theorem dX7_linesOn_16 : decode cX7_linesOn 16 = .ok (.ifCond .eq 15, 3) := by decide +kernel
theorem dX7_linesOn_19 : decode cX7_linesOn 19 = .ok (.aload_n 0, 1) := by decide +kernel
theorem dX7_linesOn_20 : decode cX7_linesOn 20 = .ok (.iload_n 3, 1) := by decide +kernel
theorem dX7_linesOn_21 : decode cX7_linesOn 21 = .ok (.invokevirtual 273, 3) := by decide +kernel
theorem dX7_linesOn_24 : decode cX7_linesOn 24 = .ok (.ifCond .eq 7, 3) := by decide +kernel
theorem dX7_linesOn_27 : decode cX7_linesOn 27 = .ok (.iconst 1, 1) := by decide +kernel
theorem dX7_linesOn_28 : decode cX7_linesOn 28 = .ok (.goto 4, 3) := by decide +kernel
theorem dX7_linesOn_31 : decode cX7_linesOn 31 = .ok (.iconst 0, 1) := by decide +kernel
theorem dX7_linesOn_32 : decode cX7_linesOn 32 = .ok (.iadd, 1) := by decide +kernel
theorem dX7_linesOn_33 : decode cX7_linesOn 33 = .ok (.istore_n 2, 1) := by decide +kernel
theorem dX7_linesOn_34 : decode cX7_linesOn 34 = .ok (.iinc 3 1, 3) := by decide +kernel
theorem dX7_linesOn_37 : decode cX7_linesOn 37 = .ok (.goto (-33), 3) := by decide +kernel
theorem dX7_linesOn_40 : decode cX7_linesOn 40 = .ok (.iload_n 2, 1) := by decide +kernel
theorem dX7_linesOn_41 : decode cX7_linesOn 41 = .ok (.ireturn, 1) := by decide +kernel
theorem dX7_odds_0 : decode cX7_odds 0 = .ok (.iload_n 1, 1) := by decide +kernel
theorem dX7_odds_1 : decode cX7_odds 1 = .ok (.invokestatic 96, 3) := by decide +kernel
theorem dX7_odds_4 : decode cX7_odds 4 = .ok (.ifCond .eq 13, 3) := by decide +kernel
theorem dX7_odds_7 : decode cX7_odds 7 = .ok (.iload_n 2, 1) := by decide +kernel
theorem dX7_odds_8 : decode cX7_odds 8 = .ok (.i2l, 1) := by decide +kernel
theorem dX7_odds_9 : decode cX7_odds 9 = .ok (.lconst 0, 1) := by decide +kernel
theorem dX7_odds_10 : decode cX7_odds 10 = .ok (.lconst 1, 1) := by decide +kernel
theorem dX7_odds_11 : decode cX7_odds 11 = .ok (.invokestatic 86, 3) := by decide +kernel
theorem dX7_odds_14 : decode cX7_odds 14 = .ok (.ifCond .ne 7, 3) := by decide +kernel
theorem dX7_odds_17 : decode cX7_odds 17 = .ok (.ldc2_w 276, 3) := by decide +kernel
theorem dX7_odds_20 : decode cX7_odds 20 = .ok (.lreturn, 1) := by decide +kernel
theorem dX7_odds_21 : decode cX7_odds 21 = .ok (.aload_n 0, 1) := by decide +kernel
theorem dX7_odds_22 : decode cX7_odds 22 = .ok (.iconst (-1), 1) := by decide +kernel
theorem dX7_odds_23 : decode cX7_odds 23 = .ok (.invokevirtual 278, 3) := by decide +kernel
theorem dX7_odds_26 : decode cX7_odds 26 = .ok (.istore_n 3, 1) := by decide +kernel
theorem dX7_odds_27 : decode cX7_odds 27 = .ok (.iload_n 3, 1) := by decide +kernel
theorem dX7_odds_28 : decode cX7_odds 28 = .ok (.ifCond .ne 8, 3) := by decide +kernel
theorem dX7_odds_31 : decode cX7_odds 31 = .ok (.iload_n 2, 1) := by decide +kernel
theorem dX7_odds_32 : decode cX7_odds 32 = .ok (.i2l, 1) := by decide +kernel
theorem dX7_odds_33 : decode cX7_odds 33 = .ok (.goto 15, 3) := by decide +kernel
theorem dX7_odds_36 : decode cX7_odds 36 = .ok (.aload_n 0, 1) := by decide +kernel
theorem dX7_odds_37 : decode cX7_odds 37 = .ok (.iload_n 1, 1) := by decide +kernel
theorem dX7_odds_38 : decode cX7_odds 38 = .ok (.invokevirtual 281, 3) := by decide +kernel
theorem dX7_odds_41 : decode cX7_odds 41 = .ok (.i2l, 1) := by decide +kernel
theorem dX7_odds_42 : decode cX7_odds 42 = .ok (.iload_n 3, 1) := by decide +kernel
theorem dX7_odds_43 : decode cX7_odds 43 = .ok (.i2l, 1) := by decide +kernel
theorem dX7_odds_44 : decode cX7_odds 44 = .ok (.iload_n 2, 1) := by decide +kernel
theorem dX7_odds_45 : decode cX7_odds 45 = .ok (.invokestatic 284, 3) := by decide +kernel
theorem dX7_odds_48 : decode cX7_odds 48 = .ok (.lreturn, 1) := by decide +kernel
theorem dX7_next_0 : decode cX7_next 0 = .ok (.iload_n 1, 1) := by decide +kernel
theorem dX7_next_1 : decode cX7_next 1 = .ok (.i2l, 1) := by decide +kernel
theorem dX7_next_2 : decode cX7_next 2 = .ok (.lconst 0, 1) := by decide +kernel
theorem dX7_next_3 : decode cX7_next 3 = .ok (.lconst 1, 1) := by decide +kernel
theorem dX7_next_4 : decode cX7_next 4 = .ok (.invokestatic 86, 3) := by decide +kernel
theorem dX7_next_7 : decode cX7_next 7 = .ok (.ifCond .ne 6, 3) := by decide +kernel
theorem dX7_next_10 : decode cX7_next 10 = .ok (.bipush (-2), 2) := by decide +kernel
theorem dX7_next_12 : decode cX7_next 12 = .ok (.ireturn, 1) := by decide +kernel
theorem dX7_next_13 : decode cX7_next 13 = .ok (.aload_n 0, 1) := by decide +kernel
theorem dX7_next_14 : decode cX7_next 14 = .ok (.iconst (-1), 1) := by decide +kernel
theorem dX7_next_15 : decode cX7_next 15 = .ok (.invokevirtual 278, 3) := by decide +kernel
theorem dX7_next_18 : decode cX7_next 18 = .ok (.istore_n 2, 1) := by decide +kernel
theorem dX7_next_19 : decode cX7_next 19 = .ok (.bipush (-6), 2) := by decide +kernel
theorem dX7_next_21 : decode cX7_next 21 = .ok (.istore_n 3, 1) := by decide +kernel
theorem dX7_next_22 : decode cX7_next 22 = .ok (.iconst 0, 1) := by decide +kernel
theorem dX7_next_23 : decode cX7_next 23 = .ok (.istore 4, 2) := by decide +kernel
theorem dX7_next_25 : decode cX7_next 25 = .ok (.iconst 0, 1) := by decide +kernel
theorem dX7_next_26 : decode cX7_next 26 = .ok (.istore 5, 2) := by decide +kernel
theorem dX7_next_28 : decode cX7_next 28 = .ok (.iload 5, 2) := by decide +kernel
theorem dX7_next_30 : decode cX7_next 30 = .ok (.bipush 64, 2) := by decide +kernel
theorem dX7_next_32 : decode cX7_next 32 = .ok (.if_icmp .ge 59, 3) := by decide +kernel
theorem dX7_next_35 : decode cX7_next 35 = .ok (.iload_n 2, 1) := by decide +kernel
theorem dX7_next_36 : decode cX7_next 36 = .ok (.ifCond .le 55, 3) := by decide +kernel
theorem dX7_next_39 : decode cX7_next 39 = .ok (.aload_n 0, 1) := by decide +kernel
theorem dX7_next_40 : decode cX7_next 40 = .ok (.iload 5, 2) := by decide +kernel
theorem dX7_next_42 : decode cX7_next 42 = .ok (.invokevirtual 281, 3) := by decide +kernel
theorem dX7_next_45 : decode cX7_next 45 = .ok (.istore 6, 2) := by decide +kernel
theorem dX7_next_47 : decode cX7_next 47 = .ok (.iload 6, 2) := by decide +kernel
theorem dX7_next_49 : decode cX7_next 49 = .ok (.iload_n 2, 1) := by decide +kernel
theorem dX7_next_50 : decode cX7_next 50 = .ok (.iload 6, 2) := by decide +kernel
theorem dX7_next_52 : decode cX7_next 52 = .ok (.isub, 1) := by decide +kernel
theorem dX7_next_53 : decode cX7_next 53 = .ok (.if_icmp .le 8, 3) := by decide +kernel
theorem dX7_next_56 : decode cX7_next 56 = .ok (.iload 6, 2) := by decide +kernel
theorem dX7_next_58 : decode cX7_next 58 = .ok (.goto 7, 3) := by decide +kernel
theorem dX7_next_61 : decode cX7_next 61 = .ok (.iload_n 2, 1) := by decide +kernel
theorem dX7_next_62 : decode cX7_next 62 = .ok (.iload 6, 2) := by decide +kernel
theorem dX7_next_64 : decode cX7_next 64 = .ok (.isub, 1) := by decide +kernel
theorem dX7_next_65 : decode cX7_next 65 = .ok (.istore 7, 2) := by decide +kernel
theorem dX7_next_67 : decode cX7_next 67 = .ok (.iload_n 3, 1) := by decide +kernel
theorem dX7_next_68 : decode cX7_next 68 = .ok (.ifCond .lt 10, 3) := by decide +kernel
theorem dX7_next_71 : decode cX7_next 71 = .ok (.iload 7, 2) := by decide +kernel
theorem dX7_next_73 : decode cX7_next 73 = .ok (.iload 4, 2) := by decide +kernel
theorem dX7_next_75 : decode cX7_next 75 = .ok (.if_icmp .ge 10, 3) := by decide +kernel
theorem dX7_next_78 : decode cX7_next 78 = .ok (.iload 5, 2) := by decide +kernel
theorem dX7_next_80 : decode cX7_next 80 = .ok (.istore_n 3, 1) := by decide +kernel
theorem dX7_next_81 : decode cX7_next 81 = .ok (.iload 7, 2) := by decide +kernel
theorem dX7_next_83 : decode cX7_next 83 = .ok (.istore 4, 2) := by decide +kernel
theorem dX7_next_85 : decode cX7_next 85 = .ok (.iinc 5 1, 3) := by decide +kernel
theorem dX7_next_88 : decode cX7_next 88 = .ok (.goto (-60), 3) := by decide +kernel
theorem dX7_next_91 : decode cX7_next 91 = .ok (.iload_n 3, 1) := by decide +kernel
theorem dX7_next_92 : decode cX7_next 92 = .ok (.ifCond .lt 7, 3) := by decide +kernel
theorem dX7_next_95 : decode cX7_next 95 = .ok (.iload_n 1, 1) := by decide +kernel
theorem dX7_next_96 : decode cX7_next 96 = .ok (.ifCond .ne 7, 3) := by decide +kernel
theorem dX7_next_99 : decode cX7_next 99 = .ok (.iload_n 3, 1) := by decide +kernel
theorem dX7_next_100 : decode cX7_next 100 = .ok (.goto 5, 3) := by decide +kernel
theorem dX7_next_103 : decode cX7_next 103 = .ok (.iload 4, 2) := by decide +kernel
theorem dX7_next_105 : decode cX7_next 105 = .ok (.ireturn, 1) := by decide +kernel
theorem dX7_leftEnd_0 : decode cX7_leftEnd 0 = .ok (.aload_n 0, 1) := by decide +kernel
theorem dX7_leftEnd_1 : decode cX7_leftEnd 1 = .ok (.getfield 68, 3) := by decide +kernel
theorem dX7_leftEnd_4 : decode cX7_leftEnd 4 = .ok (.iload_n 1, 1) := by decide +kernel
theorem dX7_leftEnd_5 : decode cX7_leftEnd 5 = .ok (.iaload, 1) := by decide +kernel
theorem dX7_leftEnd_6 : decode cX7_leftEnd 6 = .ok (.aload_n 0, 1) := by decide +kernel
theorem dX7_leftEnd_7 : decode cX7_leftEnd 7 = .ok (.getfield 71, 3) := by decide +kernel
theorem dX7_leftEnd_10 : decode cX7_leftEnd 10 = .ok (.bipush 7, 2) := by decide +kernel
theorem dX7_leftEnd_12 : decode cX7_leftEnd 12 = .ok (.iload_n 2, 1) := by decide +kernel
theorem dX7_leftEnd_13 : decode cX7_leftEnd 13 = .ok (.iconst 1, 1) := by decide +kernel
theorem dX7_leftEnd_14 : decode cX7_leftEnd 14 = .ok (.isub, 1) := by decide +kernel
theorem dX7_leftEnd_15 : decode cX7_leftEnd 15 = .ok (.imul, 1) := by decide +kernel
theorem dX7_leftEnd_16 : decode cX7_leftEnd 16 = .ok (.iload_n 1, 1) := by decide +kernel
theorem dX7_leftEnd_17 : decode cX7_leftEnd 17 = .ok (.iadd, 1) := by decide +kernel
theorem dX7_leftEnd_18 : decode cX7_leftEnd 18 = .ok (.iconst 1, 1) := by decide +kernel
theorem dX7_leftEnd_19 : decode cX7_leftEnd 19 = .ok (.iadd, 1) := by decide +kernel
theorem dX7_leftEnd_20 : decode cX7_leftEnd 20 = .ok (.iaload, 1) := by decide +kernel
theorem dX7_leftEnd_21 : decode cX7_leftEnd 21 = .ok (.isub, 1) := by decide +kernel
theorem dX7_leftEnd_22 : decode cX7_leftEnd 22 = .ok (.ireturn, 1) := by decide +kernel
theorem dX7_rightEnd_0 : decode cX7_rightEnd 0 = .ok (.aload_n 0, 1) := by decide +kernel
theorem dX7_rightEnd_1 : decode cX7_rightEnd 1 = .ok (.getfield 68, 3) := by decide +kernel
theorem dX7_rightEnd_4 : decode cX7_rightEnd 4 = .ok (.iload_n 1, 1) := by decide +kernel
theorem dX7_rightEnd_5 : decode cX7_rightEnd 5 = .ok (.iload_n 2, 1) := by decide +kernel
theorem dX7_rightEnd_6 : decode cX7_rightEnd 6 = .ok (.iadd, 1) := by decide +kernel
theorem dX7_rightEnd_7 : decode cX7_rightEnd 7 = .ok (.iconst 1, 1) := by decide +kernel
theorem dX7_rightEnd_8 : decode cX7_rightEnd 8 = .ok (.isub, 1) := by decide +kernel
theorem dX7_rightEnd_9 : decode cX7_rightEnd 9 = .ok (.iaload, 1) := by decide +kernel
theorem dX7_rightEnd_10 : decode cX7_rightEnd 10 = .ok (.aload_n 0, 1) := by decide +kernel
theorem dX7_rightEnd_11 : decode cX7_rightEnd 11 = .ok (.getfield 71, 3) := by decide +kernel
theorem dX7_rightEnd_14 : decode cX7_rightEnd 14 = .ok (.bipush 7, 2) := by decide +kernel
theorem dX7_rightEnd_16 : decode cX7_rightEnd 16 = .ok (.iload_n 2, 1) := by decide +kernel
theorem dX7_rightEnd_17 : decode cX7_rightEnd 17 = .ok (.iconst 1, 1) := by decide +kernel
theorem dX7_rightEnd_18 : decode cX7_rightEnd 18 = .ok (.isub, 1) := by decide +kernel
theorem dX7_rightEnd_19 : decode cX7_rightEnd 19 = .ok (.imul, 1) := by decide +kernel
theorem dX7_rightEnd_20 : decode cX7_rightEnd 20 = .ok (.iload_n 1, 1) := by decide +kernel
theorem dX7_rightEnd_21 : decode cX7_rightEnd 21 = .ok (.iadd, 1) := by decide +kernel
theorem dX7_rightEnd_22 : decode cX7_rightEnd 22 = .ok (.iaload, 1) := by decide +kernel
theorem dX7_rightEnd_23 : decode cX7_rightEnd 23 = .ok (.isub, 1) := by decide +kernel
theorem dX7_rightEnd_24 : decode cX7_rightEnd 24 = .ok (.ireturn, 1) := by decide +kernel
theorem dX7_turns_0 : decode cX7_turns 0 = .ok (.iload_n 1, 1) := by decide +kernel
theorem dX7_turns_1 : decode cX7_turns 1 = .ok (.i2l, 1) := by decide +kernel
theorem dX7_turns_2 : decode cX7_turns 2 = .ok (.lconst 0, 1) := by decide +kernel
theorem dX7_turns_3 : decode cX7_turns 3 = .ok (.ldc2_w 252, 3) := by decide +kernel
theorem dX7_turns_6 : decode cX7_turns 6 = .ok (.invokestatic 86, 3) := by decide +kernel
theorem dX7_turns_9 : decode cX7_turns 9 = .ok (.ifCond .eq 13, 3) := by decide +kernel
theorem dX7_turns_12 : decode cX7_turns 12 = .ok (.iload_n 2, 1) := by decide +kernel
theorem dX7_turns_13 : decode cX7_turns 13 = .ok (.i2l, 1) := by decide +kernel
theorem dX7_turns_14 : decode cX7_turns 14 = .ok (.lconst 0, 1) := by decide +kernel
theorem dX7_turns_15 : decode cX7_turns 15 = .ok (.lconst 1, 1) := by decide +kernel
theorem dX7_turns_16 : decode cX7_turns 16 = .ok (.invokestatic 86, 3) := by decide +kernel
theorem dX7_turns_19 : decode cX7_turns 19 = .ok (.ifCond .ne 6, 3) := by decide +kernel
theorem dX7_turns_22 : decode cX7_turns 22 = .ok (.bipush (-2), 2) := by decide +kernel
theorem dX7_turns_24 : decode cX7_turns 24 = .ok (.ireturn, 1) := by decide +kernel
theorem dX7_turns_25 : decode cX7_turns 25 = .ok (.iload_n 1, 1) := by decide +kernel
theorem dX7_turns_26 : decode cX7_turns 26 = .ok (.istore_n 3, 1) := by decide +kernel
theorem dX7_turns_27 : decode cX7_turns 27 = .ok (.iconst 5, 1) := by decide +kernel
theorem dX7_turns_28 : decode cX7_turns 28 = .ok (.istore 4, 2) := by decide +kernel
theorem dX7_turns_30 : decode cX7_turns 30 = .ok (.iload 4, 2) := by decide +kernel
theorem dX7_turns_32 : decode cX7_turns 32 = .ok (.ifCond .lt 25, 3) := by decide +kernel
theorem dX7_turns_35 : decode cX7_turns 35 = .ok (.aload_n 0, 1) := by decide +kernel
theorem dX7_turns_36 : decode cX7_turns 36 = .ok (.getfield 68, 3) := by decide +kernel
theorem dX7_turns_39 : decode cX7_turns 39 = .ok (.iload 4, 2) := by decide +kernel
theorem dX7_turns_41 : decode cX7_turns 41 = .ok (.iload_n 3, 1) := by decide +kernel
theorem dX7_turns_42 : decode cX7_turns 42 = .ok (.bipush 10, 2) := by decide +kernel
theorem dX7_turns_44 : decode cX7_turns 44 = .ok (.irem, 1) := by decide +kernel
theorem dX7_turns_45 : decode cX7_turns 45 = .ok (.iastore, 1) := by decide +kernel
theorem dX7_turns_46 : decode cX7_turns 46 = .ok (.iload_n 3, 1) := by decide +kernel
theorem dX7_turns_47 : decode cX7_turns 47 = .ok (.bipush 10, 2) := by decide +kernel
theorem dX7_turns_49 : decode cX7_turns 49 = .ok (.idiv, 1) := by decide +kernel
theorem dX7_turns_50 : decode cX7_turns 50 = .ok (.istore_n 3, 1) := by decide +kernel
theorem dX7_turns_51 : decode cX7_turns 51 = .ok (.iinc 4 (-1), 3) := by decide +kernel
theorem dX7_turns_54 : decode cX7_turns 54 = .ok (.goto (-24), 3) := by decide +kernel
theorem dX7_turns_57 : decode cX7_turns 57 = .ok (.iconst 0, 1) := by decide +kernel
theorem dX7_turns_58 : decode cX7_turns 58 = .ok (.istore 4, 2) := by decide +kernel
theorem dX7_turns_60 : decode cX7_turns 60 = .ok (.iload 4, 2) := by decide +kernel
theorem dX7_turns_62 : decode cX7_turns 62 = .ok (.bipush 7, 2) := by decide +kernel
theorem dX7_turns_64 : decode cX7_turns 64 = .ok (.if_icmp .ge 17, 3) := by decide +kernel
theorem dX7_turns_67 : decode cX7_turns 67 = .ok (.aload_n 0, 1) := by decide +kernel
theorem dX7_turns_68 : decode cX7_turns 68 = .ok (.getfield 71, 3) := by decide +kernel
theorem dX7_turns_71 : decode cX7_turns 71 = .ok (.iload 4, 2) := by decide +kernel
theorem dX7_turns_73 : decode cX7_turns 73 = .ok (.iconst 0, 1) := by decide +kernel
theorem dX7_turns_74 : decode cX7_turns 74 = .ok (.iastore, 1) := by decide +kernel
theorem dX7_turns_75 : decode cX7_turns 75 = .ok (.iinc 4 1, 3) := by decide +kernel
theorem dX7_turns_78 : decode cX7_turns 78 = .ok (.goto (-18), 3) := by decide +kernel
theorem dX7_turns_81 : decode cX7_turns 81 = .ok (.iconst 1, 1) := by decide +kernel
theorem dX7_turns_82 : decode cX7_turns 82 = .ok (.istore 4, 2) := by decide +kernel
theorem dX7_turns_84 : decode cX7_turns 84 = .ok (.iload 4, 2) := by decide +kernel
theorem dX7_turns_86 : decode cX7_turns 86 = .ok (.bipush 6, 2) := by decide +kernel
theorem dX7_turns_88 : decode cX7_turns 88 = .ok (.if_icmp .gt 75, 3) := by decide +kernel
theorem dX7_turns_91 : decode cX7_turns 91 = .ok (.iconst 0, 1) := by decide +kernel
theorem dX7_turns_92 : decode cX7_turns 92 = .ok (.istore 5, 2) := by decide +kernel
theorem dX7_turns_94 : decode cX7_turns 94 = .ok (.iload 5, 2) := by decide +kernel
theorem dX7_turns_96 : decode cX7_turns 96 = .ok (.iload 4, 2) := by decide +kernel
theorem dX7_turns_98 : decode cX7_turns 98 = .ok (.iadd, 1) := by decide +kernel
theorem dX7_turns_99 : decode cX7_turns 99 = .ok (.bipush 6, 2) := by decide +kernel
theorem dX7_turns_101 : decode cX7_turns 101 = .ok (.if_icmp .gt 56, 3) := by decide +kernel
theorem dX7_turns_104 : decode cX7_turns 104 = .ok (.aload_n 0, 1) := by decide +kernel
theorem dX7_turns_105 : decode cX7_turns 105 = .ok (.iload 5, 2) := by decide +kernel
theorem dX7_turns_107 : decode cX7_turns 107 = .ok (.iload 4, 2) := by decide +kernel
theorem dX7_turns_109 : decode cX7_turns 109 = .ok (.invokevirtual 288, 3) := by decide +kernel
theorem dX7_turns_112 : decode cX7_turns 112 = .ok (.istore 6, 2) := by decide +kernel
theorem dX7_turns_114 : decode cX7_turns 114 = .ok (.aload_n 0, 1) := by decide +kernel
theorem dX7_turns_115 : decode cX7_turns 115 = .ok (.iload 5, 2) := by decide +kernel
theorem dX7_turns_117 : decode cX7_turns 117 = .ok (.iload 4, 2) := by decide +kernel
theorem dX7_turns_119 : decode cX7_turns 119 = .ok (.invokevirtual 291, 3) := by decide +kernel
theorem dX7_turns_122 : decode cX7_turns 122 = .ok (.istore 7, 2) := by decide +kernel
theorem dX7_turns_124 : decode cX7_turns 124 = .ok (.aload_n 0, 1) := by decide +kernel
theorem dX7_turns_125 : decode cX7_turns 125 = .ok (.getfield 71, 3) := by decide +kernel
theorem dX7_turns_128 : decode cX7_turns 128 = .ok (.bipush 7, 2) := by decide +kernel
theorem dX7_turns_130 : decode cX7_turns 130 = .ok (.iload 4, 2) := by decide +kernel
theorem dX7_turns_132 : decode cX7_turns 132 = .ok (.imul, 1) := by decide +kernel
theorem dX7_turns_133 : decode cX7_turns 133 = .ok (.iload 5, 2) := by decide +kernel
theorem dX7_turns_135 : decode cX7_turns 135 = .ok (.iadd, 1) := by decide +kernel
theorem dX7_turns_136 : decode cX7_turns 136 = .ok (.iload 6, 2) := by decide +kernel
theorem dX7_turns_138 : decode cX7_turns 138 = .ok (.iload 7, 2) := by decide +kernel
theorem dX7_turns_140 : decode cX7_turns 140 = .ok (.if_icmp .lt 8, 3) := by decide +kernel
theorem dX7_turns_143 : decode cX7_turns 143 = .ok (.iload 6, 2) := by decide +kernel
theorem dX7_turns_145 : decode cX7_turns 145 = .ok (.goto 5, 3) := by decide +kernel
theorem dX7_turns_148 : decode cX7_turns 148 = .ok (.iload 7, 2) := by decide +kernel
theorem dX7_turns_150 : decode cX7_turns 150 = .ok (.iastore, 1) := by decide +kernel
theorem dX7_turns_151 : decode cX7_turns 151 = .ok (.iinc 5 1, 3) := by decide +kernel
theorem dX7_turns_154 : decode cX7_turns 154 = .ok (.goto (-60), 3) := by decide +kernel
theorem dX7_turns_157 : decode cX7_turns 157 = .ok (.iinc 4 1, 3) := by decide +kernel
theorem dX7_turns_160 : decode cX7_turns 160 = .ok (.goto (-76), 3) := by decide +kernel
theorem dX7_turns_163 : decode cX7_turns 163 = .ok (.iload_n 2, 1) := by decide +kernel
theorem dX7_turns_164 : decode cX7_turns 164 = .ok (.ifCond .ne 16, 3) := by decide +kernel
theorem dX7_turns_167 : decode cX7_turns 167 = .ok (.aload_n 0, 1) := by decide +kernel
theorem dX7_turns_168 : decode cX7_turns 168 = .ok (.getfield 71, 3) := by decide +kernel
theorem dX7_turns_171 : decode cX7_turns 171 = .ok (.bipush 42, 2) := by decide +kernel
theorem dX7_turns_173 : decode cX7_turns 173 = .ok (.iaload, 1) := by decide +kernel
theorem dX7_turns_174 : decode cX7_turns 174 = .ok (.bipush 100, 2) := by decide +kernel
theorem dX7_turns_176 : decode cX7_turns 176 = .ok (.iadd, 1) := by decide +kernel
theorem dX7_turns_177 : decode cX7_turns 177 = .ok (.goto 25, 3) := by decide +kernel
theorem dX7_turns_180 : decode cX7_turns 180 = .ok (.aload_n 0, 1) := by decide +kernel
theorem dX7_turns_181 : decode cX7_turns 181 = .ok (.iconst 0, 1) := by decide +kernel
theorem dX7_turns_182 : decode cX7_turns 182 = .ok (.bipush 6, 2) := by decide +kernel
theorem dX7_turns_184 : decode cX7_turns 184 = .ok (.invokevirtual 288, 3) := by decide +kernel
theorem dX7_turns_187 : decode cX7_turns 187 = .ok (.aload_n 0, 1) := by decide +kernel
theorem dX7_turns_188 : decode cX7_turns 188 = .ok (.iconst 0, 1) := by decide +kernel
theorem dX7_turns_189 : decode cX7_turns 189 = .ok (.bipush 6, 2) := by decide +kernel
theorem dX7_turns_191 : decode cX7_turns 191 = .ok (.invokevirtual 291, 3) := by decide +kernel
theorem dX7_turns_194 : decode cX7_turns 194 = .ok (.if_icmp .lt 7, 3) := by decide +kernel
theorem dX7_turns_197 : decode cX7_turns 197 = .ok (.iconst 0, 1) := by decide +kernel
theorem dX7_turns_198 : decode cX7_turns 198 = .ok (.goto 4, 3) := by decide +kernel
theorem dX7_turns_201 : decode cX7_turns 201 = .ok (.iconst 1, 1) := by decide +kernel
theorem dX7_turns_202 : decode cX7_turns 202 = .ok (.ireturn, 1) := by decide +kernel
theorem dX7_heardBy_0 : decode cX7_heardBy 0 = .ok (.iconst 0, 1) := by decide +kernel
theorem dX7_heardBy_1 : decode cX7_heardBy 1 = .ok (.istore_n 3, 1) := by decide +kernel
theorem dX7_heardBy_2 : decode cX7_heardBy 2 = .ok (.iconst 0, 1) := by decide +kernel
theorem dX7_heardBy_3 : decode cX7_heardBy 3 = .ok (.istore 4, 2) := by decide +kernel
theorem dX7_heardBy_5 : decode cX7_heardBy 5 = .ok (.iload 4, 2) := by decide +kernel
theorem dX7_heardBy_7 : decode cX7_heardBy 7 = .ok (.bipush 6, 2) := by decide +kernel
theorem dX7_heardBy_9 : decode cX7_heardBy 9 = .ok (.if_icmp .ge 52, 3) := by decide +kernel
theorem dX7_heardBy_12 : decode cX7_heardBy 12 = .ok (.iload_n 3, 1) := by decide +kernel
theorem dX7_heardBy_13 : decode cX7_heardBy 13 = .ok (.aload_n 0, 1) := by decide +kernel
theorem dX7_heardBy_14 : decode cX7_heardBy 14 = .ok (.iload 4, 2) := by decide +kernel
theorem dX7_heardBy_16 : decode cX7_heardBy 16 = .ok (.invokevirtual 106, 3) := by decide +kernel
theorem dX7_heardBy_19 : decode cX7_heardBy 19 = .ok (.ifCond .eq 33, 3) := by decide +kernel
theorem dX7_heardBy_22 : decode cX7_heardBy 22 = .ok (.aload_n 0, 1) := by decide +kernel
theorem dX7_heardBy_23 : decode cX7_heardBy 23 = .ok (.iload 4, 2) := by decide +kernel
theorem dX7_heardBy_25 : decode cX7_heardBy 25 = .ok (.iload_n 2, 1) := by decide +kernel
theorem dX7_heardBy_26 : decode cX7_heardBy 26 = .ok (.iload 4, 2) := by decide +kernel
theorem dX7_heardBy_28 : decode cX7_heardBy 28 = .ok (.ishr, 1) := by decide +kernel
theorem dX7_heardBy_29 : decode cX7_heardBy 29 = .ok (.iconst 1, 1) := by decide +kernel
theorem dX7_heardBy_30 : decode cX7_heardBy 30 = .ok (.iand, 1) := by decide +kernel
theorem dX7_heardBy_31 : decode cX7_heardBy 31 = .ok (.invokevirtual 210, 3) := by decide +kernel
theorem dX7_heardBy_34 : decode cX7_heardBy 34 = .ok (.iload_n 1, 1) := by decide +kernel
theorem dX7_heardBy_35 : decode cX7_heardBy 35 = .ok (.aload_n 0, 1) := by decide +kernel
theorem dX7_heardBy_36 : decode cX7_heardBy 36 = .ok (.getfield 16, 3) := by decide +kernel
theorem dX7_heardBy_39 : decode cX7_heardBy 39 = .ok (.iload 4, 2) := by decide +kernel
theorem dX7_heardBy_41 : decode cX7_heardBy 41 = .ok (.iaload, 1) := by decide +kernel
theorem dX7_heardBy_42 : decode cX7_heardBy 42 = .ok (.invokestatic 216, 3) := by decide +kernel
theorem dX7_heardBy_45 : decode cX7_heardBy 45 = .ok (.isub, 1) := by decide +kernel
theorem dX7_heardBy_46 : decode cX7_heardBy 46 = .ok (.invokestatic 219, 3) := by decide +kernel
theorem dX7_heardBy_49 : decode cX7_heardBy 49 = .ok (.goto 4, 3) := by decide +kernel
theorem dX7_heardBy_52 : decode cX7_heardBy 52 = .ok (.iconst 0, 1) := by decide +kernel
theorem dX7_heardBy_53 : decode cX7_heardBy 53 = .ok (.iadd, 1) := by decide +kernel
theorem dX7_heardBy_54 : decode cX7_heardBy 54 = .ok (.istore_n 3, 1) := by decide +kernel
theorem dX7_heardBy_55 : decode cX7_heardBy 55 = .ok (.iinc 4 1, 3) := by decide +kernel
theorem dX7_heardBy_58 : decode cX7_heardBy 58 = .ok (.goto (-53), 3) := by decide +kernel
theorem dX7_heardBy_61 : decode cX7_heardBy 61 = .ok (.iload_n 3, 1) := by decide +kernel
theorem dX7_heardBy_62 : decode cX7_heardBy 62 = .ok (.ireturn, 1) := by decide +kernel
theorem dX7_colds_0 : decode cX7_colds 0 = .ok (.iload_n 1, 1) := by decide +kernel
theorem dX7_colds_1 : decode cX7_colds 1 = .ok (.invokestatic 96, 3) := by decide +kernel
theorem dX7_colds_4 : decode cX7_colds 4 = .ok (.ifCond .eq 40, 3) := by decide +kernel
theorem dX7_colds_7 : decode cX7_colds 7 = .ok (.iload_n 2, 1) := by decide +kernel
theorem dX7_colds_8 : decode cX7_colds 8 = .ok (.i2l, 1) := by decide +kernel
theorem dX7_colds_9 : decode cX7_colds 9 = .ok (.lconst 0, 1) := by decide +kernel
theorem dX7_colds_10 : decode cX7_colds 10 = .ok (.ldc2_w 294, 3) := by decide +kernel
theorem dX7_colds_13 : decode cX7_colds 13 = .ok (.invokestatic 86, 3) := by decide +kernel
theorem dX7_colds_16 : decode cX7_colds 16 = .ok (.ifCond .eq 28, 3) := by decide +kernel
theorem dX7_colds_19 : decode cX7_colds 19 = .ok (.iload_n 3, 1) := by decide +kernel
theorem dX7_colds_20 : decode cX7_colds 20 = .ok (.i2l, 1) := by decide +kernel
theorem dX7_colds_21 : decode cX7_colds 21 = .ok (.ldc2_w 109, 3) := by decide +kernel
theorem dX7_colds_24 : decode cX7_colds 24 = .ok (.ldc2_w 296, 3) := by decide +kernel
theorem dX7_colds_27 : decode cX7_colds 27 = .ok (.invokestatic 86, 3) := by decide +kernel
theorem dX7_colds_30 : decode cX7_colds 30 = .ok (.ifCond .eq 14, 3) := by decide +kernel
theorem dX7_colds_33 : decode cX7_colds 33 = .ok (.iload 4, 2) := by decide +kernel
theorem dX7_colds_35 : decode cX7_colds 35 = .ok (.i2l, 1) := by decide +kernel
theorem dX7_colds_36 : decode cX7_colds 36 = .ok (.lconst 0, 1) := by decide +kernel
theorem dX7_colds_37 : decode cX7_colds 37 = .ok (.lconst 1, 1) := by decide +kernel
theorem dX7_colds_38 : decode cX7_colds 38 = .ok (.invokestatic 86, 3) := by decide +kernel
theorem dX7_colds_41 : decode cX7_colds 41 = .ok (.ifCond .ne 7, 3) := by decide +kernel
theorem dX7_colds_44 : decode cX7_colds 44 = .ok (.ldc2_w 276, 3) := by decide +kernel
theorem dX7_colds_47 : decode cX7_colds 47 = .ok (.lreturn, 1) := by decide +kernel
theorem dX7_colds_48 : decode cX7_colds 48 = .ok (.lconst 0, 1) := by decide +kernel
theorem dX7_colds_49 : decode cX7_colds 49 = .ok (.lstore 5, 2) := by decide +kernel
theorem dX7_colds_51 : decode cX7_colds 51 = .ok (.lconst 0, 1) := by decide +kernel
theorem dX7_colds_52 : decode cX7_colds 52 = .ok (.lstore 7, 2) := by decide +kernel
theorem dX7_colds_54 : decode cX7_colds 54 = .ok (.iconst 0, 1) := by decide +kernel
theorem dX7_colds_55 : decode cX7_colds 55 = .ok (.istore 9, 2) := by decide +kernel
theorem dX7_colds_57 : decode cX7_colds 57 = .ok (.iload 9, 2) := by decide +kernel
theorem dX7_colds_59 : decode cX7_colds 59 = .ok (.bipush 64, 2) := by decide +kernel
theorem dX7_colds_61 : decode cX7_colds 61 = .ok (.if_icmp .ge 129, 3) := by decide +kernel
theorem dX7_colds_64 : decode cX7_colds 64 = .ok (.iload 9, 2) := by decide +kernel
theorem dX7_colds_66 : decode cX7_colds 66 = .ok (.aload_n 0, 1) := by decide +kernel
theorem dX7_colds_67 : decode cX7_colds 67 = .ok (.getfield 92, 3) := by decide +kernel
theorem dX7_colds_70 : decode cX7_colds 70 = .ok (.iconst (-1), 1) := by decide +kernel
theorem dX7_colds_71 : decode cX7_colds 71 = .ok (.ixor, 1) := by decide +kernel
theorem dX7_colds_72 : decode cX7_colds 72 = .ok (.iand, 1) := by decide +kernel
theorem dX7_colds_73 : decode cX7_colds 73 = .ok (.ifCond .ne 7, 3) := by decide +kernel
theorem dX7_colds_76 : decode cX7_colds 76 = .ok (.lconst 1, 1) := by decide +kernel
theorem dX7_colds_77 : decode cX7_colds 77 = .ok (.goto 4, 3) := by decide +kernel
theorem dX7_colds_80 : decode cX7_colds 80 = .ok (.lconst 0, 1) := by decide +kernel
theorem dX7_colds_81 : decode cX7_colds 81 = .ok (.lstore 10, 2) := by decide +kernel
theorem dX7_colds_83 : decode cX7_colds 83 = .ok (.iconst 0, 1) := by decide +kernel
theorem dX7_colds_84 : decode cX7_colds 84 = .ok (.istore 12, 2) := by decide +kernel
theorem dX7_colds_86 : decode cX7_colds 86 = .ok (.iload 12, 2) := by decide +kernel
theorem dX7_colds_88 : decode cX7_colds 88 = .ok (.bipush 6, 2) := by decide +kernel
theorem dX7_colds_90 : decode cX7_colds 90 = .ok (.if_icmp .ge 48, 3) := by decide +kernel
theorem dX7_colds_93 : decode cX7_colds 93 = .ok (.lload 10, 2) := by decide +kernel
theorem dX7_colds_95 : decode cX7_colds 95 = .ok (.aload_n 0, 1) := by decide +kernel
theorem dX7_colds_96 : decode cX7_colds 96 = .ok (.iload 12, 2) := by decide +kernel
theorem dX7_colds_98 : decode cX7_colds 98 = .ok (.invokevirtual 106, 3) := by decide +kernel
theorem dX7_colds_101 : decode cX7_colds 101 = .ok (.ifCond .ne 7, 3) := by decide +kernel
theorem dX7_colds_104 : decode cX7_colds 104 = .ok (.lconst 1, 1) := by decide +kernel
theorem dX7_colds_105 : decode cX7_colds 105 = .ok (.goto 24, 3) := by decide +kernel
theorem dX7_colds_108 : decode cX7_colds 108 = .ok (.iload 9, 2) := by decide +kernel
theorem dX7_colds_110 : decode cX7_colds 110 = .ok (.iload 12, 2) := by decide +kernel
theorem dX7_colds_112 : decode cX7_colds 112 = .ok (.ishr, 1) := by decide +kernel
theorem dX7_colds_113 : decode cX7_colds 113 = .ok (.iconst 1, 1) := by decide +kernel
theorem dX7_colds_114 : decode cX7_colds 114 = .ok (.iand, 1) := by decide +kernel
theorem dX7_colds_115 : decode cX7_colds 115 = .ok (.iconst 1, 1) := by decide +kernel
theorem dX7_colds_116 : decode cX7_colds 116 = .ok (.if_icmp .ne 8, 3) := by decide +kernel
theorem dX7_colds_119 : decode cX7_colds 119 = .ok (.iload_n 2, 1) := by decide +kernel
theorem dX7_colds_120 : decode cX7_colds 120 = .ok (.i2l, 1) := by decide +kernel
theorem dX7_colds_121 : decode cX7_colds 121 = .ok (.goto 8, 3) := by decide +kernel
theorem dX7_colds_124 : decode cX7_colds 124 = .ok (.bipush 10, 2) := by decide +kernel
theorem dX7_colds_126 : decode cX7_colds 126 = .ok (.iload_n 2, 1) := by decide +kernel
theorem dX7_colds_127 : decode cX7_colds 127 = .ok (.isub, 1) := by decide +kernel
theorem dX7_colds_128 : decode cX7_colds 128 = .ok (.i2l, 1) := by decide +kernel
theorem dX7_colds_129 : decode cX7_colds 129 = .ok (.lmul, 1) := by decide +kernel
theorem dX7_colds_130 : decode cX7_colds 130 = .ok (.lstore 10, 2) := by decide +kernel
theorem dX7_colds_132 : decode cX7_colds 132 = .ok (.iinc 12 1, 3) := by decide +kernel
theorem dX7_colds_135 : decode cX7_colds 135 = .ok (.goto (-49), 3) := by decide +kernel
theorem dX7_colds_138 : decode cX7_colds 138 = .ok (.aload_n 0, 1) := by decide +kernel
theorem dX7_colds_139 : decode cX7_colds 139 = .ok (.iload_n 1, 1) := by decide +kernel
theorem dX7_colds_140 : decode cX7_colds 140 = .ok (.iload 9, 2) := by decide +kernel
theorem dX7_colds_142 : decode cX7_colds 142 = .ok (.invokevirtual 298, 3) := by decide +kernel
theorem dX7_colds_145 : decode cX7_colds 145 = .ok (.istore 12, 2) := by decide +kernel
theorem dX7_colds_147 : decode cX7_colds 147 = .ok (.lload 5, 2) := by decide +kernel
theorem dX7_colds_149 : decode cX7_colds 149 = .ok (.lload 10, 2) := by decide +kernel
theorem dX7_colds_151 : decode cX7_colds 151 = .ok (.ladd, 1) := by decide +kernel
theorem dX7_colds_152 : decode cX7_colds 152 = .ok (.lstore 5, 2) := by decide +kernel
theorem dX7_colds_154 : decode cX7_colds 154 = .ok (.lload 7, 2) := by decide +kernel
theorem dX7_colds_156 : decode cX7_colds 156 = .ok (.iload_n 3, 1) := by decide +kernel
theorem dX7_colds_157 : decode cX7_colds 157 = .ok (.ifCond .ge 12, 3) := by decide +kernel
theorem dX7_colds_160 : decode cX7_colds 160 = .ok (.lload 10, 2) := by decide +kernel
theorem dX7_colds_162 : decode cX7_colds 162 = .ok (.iload 12, 2) := by decide +kernel
theorem dX7_colds_164 : decode cX7_colds 164 = .ok (.i2l, 1) := by decide +kernel
theorem dX7_colds_165 : decode cX7_colds 165 = .ok (.lmul, 1) := by decide +kernel
theorem dX7_colds_166 : decode cX7_colds 166 = .ok (.goto 15, 3) := by decide +kernel
theorem dX7_colds_169 : decode cX7_colds 169 = .ok (.iload 12, 2) := by decide +kernel
theorem dX7_colds_171 : decode cX7_colds 171 = .ok (.iload_n 3, 1) := by decide +kernel
theorem dX7_colds_172 : decode cX7_colds 172 = .ok (.if_icmp .lt 8, 3) := by decide +kernel
theorem dX7_colds_175 : decode cX7_colds 175 = .ok (.lload 10, 2) := by decide +kernel
theorem dX7_colds_177 : decode cX7_colds 177 = .ok (.goto 4, 3) := by decide +kernel
theorem dX7_colds_180 : decode cX7_colds 180 = .ok (.lconst 0, 1) := by decide +kernel
theorem dX7_colds_181 : decode cX7_colds 181 = .ok (.ladd, 1) := by decide +kernel
theorem dX7_colds_182 : decode cX7_colds 182 = .ok (.lstore 7, 2) := by decide +kernel
theorem dX7_colds_184 : decode cX7_colds 184 = .ok (.iinc 9 1, 3) := by decide +kernel
theorem dX7_colds_187 : decode cX7_colds 187 = .ok (.goto (-130), 3) := by decide +kernel
theorem dX7_colds_190 : decode cX7_colds 190 = .ok (.lload 7, 2) := by decide +kernel
theorem dX7_colds_192 : decode cX7_colds 192 = .ok (.lload 5, 2) := by decide +kernel
theorem dX7_colds_194 : decode cX7_colds 194 = .ok (.iload 4, 2) := by decide +kernel
theorem dX7_colds_196 : decode cX7_colds 196 = .ok (.invokestatic 284, 3) := by decide +kernel
theorem dX7_colds_199 : decode cX7_colds 199 = .ok (.lreturn, 1) := by decide +kernel
theorem dX7_year_0 : decode cX7_year 0 = .ok (.iload_n 1, 1) := by decide +kernel
theorem dX7_year_1 : decode cX7_year 1 = .ok (.i2l, 1) := by decide +kernel
theorem dX7_year_2 : decode cX7_year 2 = .ok (.lconst 0, 1) := by decide +kernel
theorem dX7_year_3 : decode cX7_year 3 = .ok (.ldc2_w 301, 3) := by decide +kernel
theorem dX7_year_6 : decode cX7_year 6 = .ok (.invokestatic 86, 3) := by decide +kernel
theorem dX7_year_9 : decode cX7_year 9 = .ok (.ifCond .eq 27, 3) := by decide +kernel
theorem dX7_year_12 : decode cX7_year 12 = .ok (.iload_n 2, 1) := by decide +kernel
theorem dX7_year_13 : decode cX7_year 13 = .ok (.i2l, 1) := by decide +kernel
theorem dX7_year_14 : decode cX7_year 14 = .ok (.lconst 1, 1) := by decide +kernel
theorem dX7_year_15 : decode cX7_year 15 = .ok (.ldc2_w 303, 3) := by decide +kernel
theorem dX7_year_18 : decode cX7_year 18 = .ok (.invokestatic 86, 3) := by decide +kernel
theorem dX7_year_21 : decode cX7_year 21 = .ok (.ifCond .eq 15, 3) := by decide +kernel
theorem dX7_year_24 : decode cX7_year 24 = .ok (.iload_n 3, 1) := by decide +kernel
theorem dX7_year_25 : decode cX7_year 25 = .ok (.i2l, 1) := by decide +kernel
theorem dX7_year_26 : decode cX7_year 26 = .ok (.lconst 0, 1) := by decide +kernel
theorem dX7_year_27 : decode cX7_year 27 = .ok (.ldc2_w 202, 3) := by decide +kernel
theorem dX7_year_30 : decode cX7_year 30 = .ok (.invokestatic 86, 3) := by decide +kernel
theorem dX7_year_33 : decode cX7_year 33 = .ok (.ifCond .ne 6, 3) := by decide +kernel
theorem dX7_year_36 : decode cX7_year 36 = .ok (.bipush (-2), 2) := by decide +kernel
theorem dX7_year_38 : decode cX7_year 38 = .ok (.ireturn, 1) := by decide +kernel
theorem dX7_year_39 : decode cX7_year 39 = .ok (.aload_n 0, 1) := by decide +kernel
theorem dX7_year_40 : decode cX7_year 40 = .ok (.invokevirtual 193, 3) := by decide +kernel
theorem dX7_year_43 : decode cX7_year 43 = .ok (.aload_n 0, 1) := by decide +kernel
theorem dX7_year_44 : decode cX7_year 44 = .ok (.iconst 0, 1) := by decide +kernel
theorem dX7_year_45 : decode cX7_year 45 = .ok (.putfield 169, 3) := by decide +kernel
theorem dX7_year_48 : decode cX7_year 48 = .ok (.iload_n 1, 1) := by decide +kernel
theorem dX7_year_49 : decode cX7_year 49 = .ok (.istore 4, 2) := by decide +kernel
theorem dX7_year_51 : decode cX7_year 51 = .ok (.iconst 0, 1) := by decide +kernel
theorem dX7_year_52 : decode cX7_year 52 = .ok (.istore 5, 2) := by decide +kernel
theorem dX7_year_54 : decode cX7_year 54 = .ok (.iload 5, 2) := by decide +kernel
theorem dX7_year_56 : decode cX7_year 56 = .ok (.iload_n 2, 1) := by decide +kernel
theorem dX7_year_57 : decode cX7_year 57 = .ok (.if_icmp .ge 114, 3) := by decide +kernel
theorem dX7_year_60 : decode cX7_year 60 = .ok (.ldc2_w 305, 3) := by decide +kernel
theorem dX7_year_63 : decode cX7_year 63 = .ok (.iload 4, 2) := by decide +kernel
theorem dX7_year_65 : decode cX7_year 65 = .ok (.i2l, 1) := by decide +kernel
theorem dX7_year_66 : decode cX7_year 66 = .ok (.lmul, 1) := by decide +kernel
theorem dX7_year_67 : decode cX7_year 67 = .ok (.ldc2_w 307, 3) := by decide +kernel
theorem dX7_year_70 : decode cX7_year 70 = .ok (.ladd, 1) := by decide +kernel
theorem dX7_year_71 : decode cX7_year 71 = .ok (.ldc2_w 309, 3) := by decide +kernel
theorem dX7_year_74 : decode cX7_year 74 = .ok (.lrem, 1) := by decide +kernel
theorem dX7_year_75 : decode cX7_year 75 = .ok (.l2i, 1) := by decide +kernel
theorem dX7_year_76 : decode cX7_year 76 = .ok (.istore 4, 2) := by decide +kernel
theorem dX7_year_78 : decode cX7_year 78 = .ok (.iload 4, 2) := by decide +kernel
theorem dX7_year_80 : decode cX7_year 80 = .ok (.bipush 6, 2) := by decide +kernel
theorem dX7_year_82 : decode cX7_year 82 = .ok (.idiv, 1) := by decide +kernel
theorem dX7_year_83 : decode cX7_year 83 = .ok (.bipush 8, 2) := by decide +kernel
theorem dX7_year_85 : decode cX7_year 85 = .ok (.irem, 1) := by decide +kernel
theorem dX7_year_86 : decode cX7_year 86 = .ok (.istore 6, 2) := by decide +kernel
theorem dX7_year_88 : decode cX7_year 88 = .ok (.iload 6, 2) := by decide +kernel
theorem dX7_year_90 : decode cX7_year 90 = .ok (.iconst 4, 1) := by decide +kernel
theorem dX7_year_91 : decode cX7_year 91 = .ok (.if_icmp .ge 7, 3) := by decide +kernel
theorem dX7_year_94 : decode cX7_year 94 = .ok (.iconst 0, 1) := by decide +kernel
theorem dX7_year_95 : decode cX7_year 95 = .ok (.goto 35, 3) := by decide +kernel
theorem dX7_year_98 : decode cX7_year 98 = .ok (.iload 6, 2) := by decide +kernel
theorem dX7_year_100 : decode cX7_year 100 = .ok (.iconst 4, 1) := by decide +kernel
theorem dX7_year_101 : decode cX7_year 101 = .ok (.if_icmp .ne 7, 3) := by decide +kernel
theorem dX7_year_104 : decode cX7_year 104 = .ok (.iconst 1, 1) := by decide +kernel
theorem dX7_year_105 : decode cX7_year 105 = .ok (.goto 25, 3) := by decide +kernel
theorem dX7_year_108 : decode cX7_year 108 = .ok (.iload 6, 2) := by decide +kernel
theorem dX7_year_110 : decode cX7_year 110 = .ok (.iconst 5, 1) := by decide +kernel
theorem dX7_year_111 : decode cX7_year 111 = .ok (.if_icmp .ne 7, 3) := by decide +kernel
theorem dX7_year_114 : decode cX7_year 114 = .ok (.iconst 2, 1) := by decide +kernel
theorem dX7_year_115 : decode cX7_year 115 = .ok (.goto 15, 3) := by decide +kernel
theorem dX7_year_118 : decode cX7_year 118 = .ok (.iload 6, 2) := by decide +kernel
theorem dX7_year_120 : decode cX7_year 120 = .ok (.bipush 6, 2) := by decide +kernel
theorem dX7_year_122 : decode cX7_year 122 = .ok (.if_icmp .ne 7, 3) := by decide +kernel
theorem dX7_year_125 : decode cX7_year 125 = .ok (.iconst 5, 1) := by decide +kernel
theorem dX7_year_126 : decode cX7_year 126 = .ok (.goto 4, 3) := by decide +kernel
theorem dX7_year_129 : decode cX7_year 129 = .ok (.iconst 3, 1) := by decide +kernel
theorem dX7_year_130 : decode cX7_year 130 = .ok (.istore 7, 2) := by decide +kernel
theorem dX7_year_132 : decode cX7_year 132 = .ok (.aload_n 0, 1) := by decide +kernel
theorem dX7_year_133 : decode cX7_year 133 = .ok (.iload 7, 2) := by decide +kernel
theorem dX7_year_135 : decode cX7_year 135 = .ok (.iload 4, 2) := by decide +kernel
theorem dX7_year_137 : decode cX7_year 137 = .ok (.bipush 6, 2) := by decide +kernel
theorem dX7_year_139 : decode cX7_year 139 = .ok (.irem, 1) := by decide +kernel
theorem dX7_year_140 : decode cX7_year 140 = .ok (.iload 6, 2) := by decide +kernel
theorem dX7_year_142 : decode cX7_year 142 = .ok (.iconst 4, 1) := by decide +kernel
theorem dX7_year_143 : decode cX7_year 143 = .ok (.irem, 1) := by decide +kernel
theorem dX7_year_144 : decode cX7_year 144 = .ok (.invokevirtual 185, 3) := by decide +kernel
theorem dX7_year_147 : decode cX7_year 147 = .ok (.ifCond .ne 18, 3) := by decide +kernel
theorem dX7_year_150 : decode cX7_year 150 = .ok (.aload_n 0, 1) := by decide +kernel
theorem dX7_year_151 : decode cX7_year 151 = .ok (.iload 7, 2) := by decide +kernel
theorem dX7_year_153 : decode cX7_year 153 = .ok (.iload 4, 2) := by decide +kernel
theorem dX7_year_155 : decode cX7_year 155 = .ok (.bipush 6, 2) := by decide +kernel
theorem dX7_year_157 : decode cX7_year 157 = .ok (.irem, 1) := by decide +kernel
theorem dX7_year_158 : decode cX7_year 158 = .ok (.iload 6, 2) := by decide +kernel
theorem dX7_year_160 : decode cX7_year 160 = .ok (.iconst 4, 1) := by decide +kernel
theorem dX7_year_161 : decode cX7_year 161 = .ok (.irem, 1) := by decide +kernel
theorem dX7_year_162 : decode cX7_year 162 = .ok (.invokevirtual 189, 3) := by decide +kernel
theorem dX7_year_165 : decode cX7_year 165 = .ok (.iinc 5 1, 3) := by decide +kernel
theorem dX7_year_168 : decode cX7_year 168 = .ok (.goto (-114), 3) := by decide +kernel
theorem dX7_year_171 : decode cX7_year 171 = .ok (.iconst 0, 1) := by decide +kernel
theorem dX7_year_172 : decode cX7_year 172 = .ok (.istore 5, 2) := by decide +kernel
theorem dX7_year_174 : decode cX7_year 174 = .ok (.iconst 0, 1) := by decide +kernel
theorem dX7_year_175 : decode cX7_year 175 = .ok (.istore 6, 2) := by decide +kernel
theorem dX7_year_177 : decode cX7_year 177 = .ok (.iload 6, 2) := by decide +kernel
theorem dX7_year_179 : decode cX7_year 179 = .ok (.bipush 6, 2) := by decide +kernel
theorem dX7_year_181 : decode cX7_year 181 = .ok (.if_icmp .ge 34, 3) := by decide +kernel
theorem dX7_year_184 : decode cX7_year 184 = .ok (.iload 5, 2) := by decide +kernel
theorem dX7_year_186 : decode cX7_year 186 = .ok (.aload_n 0, 1) := by decide +kernel
theorem dX7_year_187 : decode cX7_year 187 = .ok (.iload 6, 2) := by decide +kernel
theorem dX7_year_189 : decode cX7_year 189 = .ok (.invokevirtual 106, 3) := by decide +kernel
theorem dX7_year_192 : decode cX7_year 192 = .ok (.ifCond .eq 13, 3) := by decide +kernel
theorem dX7_year_195 : decode cX7_year 195 = .ok (.aload_n 0, 1) := by decide +kernel
theorem dX7_year_196 : decode cX7_year 196 = .ok (.getfield 29, 3) := by decide +kernel
theorem dX7_year_199 : decode cX7_year 199 = .ok (.iload 6, 2) := by decide +kernel
theorem dX7_year_201 : decode cX7_year 201 = .ok (.iaload, 1) := by decide +kernel
theorem dX7_year_202 : decode cX7_year 202 = .ok (.goto 4, 3) := by decide +kernel
theorem dX7_year_205 : decode cX7_year 205 = .ok (.iconst 0, 1) := by decide +kernel
theorem dX7_year_206 : decode cX7_year 206 = .ok (.iadd, 1) := by decide +kernel
theorem dX7_year_207 : decode cX7_year 207 = .ok (.istore 5, 2) := by decide +kernel
theorem dX7_year_209 : decode cX7_year 209 = .ok (.iinc 6 1, 3) := by decide +kernel
theorem dX7_year_212 : decode cX7_year 212 = .ok (.goto (-35), 3) := by decide +kernel
theorem dX7_year_215 : decode cX7_year 215 = .ok (.aload_n 0, 1) := by decide +kernel
theorem dX7_year_216 : decode cX7_year 216 = .ok (.invokevirtual 121, 3) := by decide +kernel
theorem dX7_year_219 : decode cX7_year 219 = .ok (.istore 6, 2) := by decide +kernel
theorem dX7_year_221 : decode cX7_year 221 = .ok (.aload_n 0, 1) := by decide +kernel
theorem dX7_year_222 : decode cX7_year 222 = .ok (.iload_n 3, 1) := by decide +kernel
theorem dX7_year_223 : decode cX7_year 223 = .ok (.ifCond .ne 8, 3) := by decide +kernel
theorem dX7_year_226 : decode cX7_year 226 = .ok (.iload 5, 2) := by decide +kernel
theorem dX7_year_228 : decode cX7_year 228 = .ok (.goto 17, 3) := by decide +kernel
theorem dX7_year_231 : decode cX7_year 231 = .ok (.iload_n 3, 1) := by decide +kernel
theorem dX7_year_232 : decode cX7_year 232 = .ok (.iconst 1, 1) := by decide +kernel
theorem dX7_year_233 : decode cX7_year 233 = .ok (.if_icmp .ne 8, 3) := by decide +kernel
theorem dX7_year_236 : decode cX7_year 236 = .ok (.iload 6, 2) := by decide +kernel
theorem dX7_year_238 : decode cX7_year 238 = .ok (.goto 7, 3) := by decide +kernel
theorem dX7_year_241 : decode cX7_year 241 = .ok (.aload_n 0, 1) := by decide +kernel
theorem dX7_year_242 : decode cX7_year 242 = .ok (.getfield 169, 3) := by decide +kernel
theorem dX7_year_245 : decode cX7_year 245 = .ok (.invokevirtual 207, 3) := by decide +kernel
theorem dX7_year_248 : decode cX7_year 248 = .ok (.ireturn, 1) := by decide +kernel
theorem dX7_pass_0 : decode cX7_pass 0 = .ok (.aload_n 0, 1) := by decide +kernel
theorem dX7_pass_1 : decode cX7_pass 1 = .ok (.getfield 311, 3) := by decide +kernel
theorem dX7_pass_4 : decode cX7_pass 4 = .ok (.ifCond .eq 7, 3) := by decide +kernel
theorem dX7_pass_7 : decode cX7_pass 7 = .ok (.iload_n 1, 1) := by decide +kernel
theorem dX7_pass_8 : decode cX7_pass 8 = .ok (.goto 12, 3) := by decide +kernel
theorem dX7_pass_11 : decode cX7_pass 11 = .ok (.aload_n 0, 1) := by decide +kernel
theorem dX7_pass_12 : decode cX7_pass 12 = .ok (.getfield 74, 3) := by decide +kernel
theorem dX7_pass_15 : decode cX7_pass 15 = .ok (.aload_n 0, 1) := by decide +kernel
theorem dX7_pass_16 : decode cX7_pass 16 = .ok (.getfield 315, 3) := by decide +kernel
theorem dX7_pass_19 : decode cX7_pass 19 = .ok (.iaload, 1) := by decide +kernel
theorem dX7_pass_20 : decode cX7_pass 20 = .ok (.istore_n 2, 1) := by decide +kernel
theorem dX7_pass_21 : decode cX7_pass 21 = .ok (.aload_n 0, 1) := by decide +kernel
theorem dX7_pass_22 : decode cX7_pass 22 = .ok (.getfield 74, 3) := by decide +kernel
theorem dX7_pass_25 : decode cX7_pass 25 = .ok (.aload_n 0, 1) := by decide +kernel
theorem dX7_pass_26 : decode cX7_pass 26 = .ok (.getfield 315, 3) := by decide +kernel
theorem dX7_pass_29 : decode cX7_pass 29 = .ok (.iload_n 2, 1) := by decide +kernel
theorem dX7_pass_30 : decode cX7_pass 30 = .ok (.iastore, 1) := by decide +kernel
theorem dX7_pass_31 : decode cX7_pass 31 = .ok (.aload_n 0, 1) := by decide +kernel
theorem dX7_pass_32 : decode cX7_pass 32 = .ok (.dup, 1) := by decide +kernel
theorem dX7_pass_33 : decode cX7_pass 33 = .ok (.getfield 315, 3) := by decide +kernel
theorem dX7_pass_36 : decode cX7_pass 36 = .ok (.iconst 1, 1) := by decide +kernel
theorem dX7_pass_37 : decode cX7_pass 37 = .ok (.iadd, 1) := by decide +kernel
theorem dX7_pass_38 : decode cX7_pass 38 = .ok (.putfield 315, 3) := by decide +kernel
theorem dX7_pass_41 : decode cX7_pass 41 = .ok (.iload_n 2, 1) := by decide +kernel
theorem dX7_pass_42 : decode cX7_pass 42 = .ok (.ireturn, 1) := by decide +kernel
theorem dX7_passRow_0 : decode cX7_passRow 0 = .ok (.iconst 0, 1) := by decide +kernel
theorem dX7_passRow_1 : decode cX7_passRow 1 = .ok (.istore_n 3, 1) := by decide +kernel
theorem dX7_passRow_2 : decode cX7_passRow 2 = .ok (.iload_n 3, 1) := by decide +kernel
theorem dX7_passRow_3 : decode cX7_passRow 3 = .ok (.iload_n 2, 1) := by decide +kernel
theorem dX7_passRow_4 : decode cX7_passRow 4 = .ok (.if_icmp .ge 19, 3) := by decide +kernel
theorem dX7_passRow_7 : decode cX7_passRow 7 = .ok (.aload_n 1, 1) := by decide +kernel
theorem dX7_passRow_8 : decode cX7_passRow 8 = .ok (.iload_n 3, 1) := by decide +kernel
theorem dX7_passRow_9 : decode cX7_passRow 9 = .ok (.aload_n 0, 1) := by decide +kernel
theorem dX7_passRow_10 : decode cX7_passRow 10 = .ok (.aload_n 1, 1) := by decide +kernel
theorem dX7_passRow_11 : decode cX7_passRow 11 = .ok (.iload_n 3, 1) := by decide +kernel
theorem dX7_passRow_12 : decode cX7_passRow 12 = .ok (.iaload, 1) := by decide +kernel
theorem dX7_passRow_13 : decode cX7_passRow 13 = .ok (.invokevirtual 318, 3) := by decide +kernel
theorem dX7_passRow_16 : decode cX7_passRow 16 = .ok (.iastore, 1) := by decide +kernel
theorem dX7_passRow_17 : decode cX7_passRow 17 = .ok (.iinc 3 1, 3) := by decide +kernel
theorem dX7_passRow_20 : decode cX7_passRow 20 = .ok (.goto (-18), 3) := by decide +kernel
theorem dX7_passRow_23 : decode cX7_passRow 23 = .ok (.return_, 1) := by decide +kernel
theorem dX7_passAll_0 : decode cX7_passAll 0 = .ok (.aload_n 0, 1) := by decide +kernel
theorem dX7_passAll_1 : decode cX7_passAll 1 = .ok (.aload_n 0, 1) := by decide +kernel
theorem dX7_passAll_2 : decode cX7_passAll 2 = .ok (.aload_n 0, 1) := by decide +kernel
theorem dX7_passAll_3 : decode cX7_passAll 3 = .ok (.getfield 92, 3) := by decide +kernel
theorem dX7_passAll_6 : decode cX7_passAll 6 = .ok (.invokevirtual 318, 3) := by decide +kernel
theorem dX7_passAll_9 : decode cX7_passAll 9 = .ok (.putfield 92, 3) := by decide +kernel
theorem dX7_passAll_12 : decode cX7_passAll 12 = .ok (.aload_n 0, 1) := by decide +kernel
theorem dX7_passAll_13 : decode cX7_passAll 13 = .ok (.aload_n 0, 1) := by decide +kernel
theorem dX7_passAll_14 : decode cX7_passAll 14 = .ok (.aload_n 0, 1) := by decide +kernel
theorem dX7_passAll_15 : decode cX7_passAll 15 = .ok (.getfield 243, 3) := by decide +kernel
theorem dX7_passAll_18 : decode cX7_passAll 18 = .ok (.invokevirtual 318, 3) := by decide +kernel
theorem dX7_passAll_21 : decode cX7_passAll 21 = .ok (.putfield 243, 3) := by decide +kernel
theorem dX7_passAll_24 : decode cX7_passAll 24 = .ok (.aload_n 0, 1) := by decide +kernel
theorem dX7_passAll_25 : decode cX7_passAll 25 = .ok (.aload_n 0, 1) := by decide +kernel
theorem dX7_passAll_26 : decode cX7_passAll 26 = .ok (.aload_n 0, 1) := by decide +kernel
theorem dX7_passAll_27 : decode cX7_passAll 27 = .ok (.getfield 267, 3) := by decide +kernel
theorem dX7_passAll_30 : decode cX7_passAll 30 = .ok (.invokevirtual 318, 3) := by decide +kernel
theorem dX7_passAll_33 : decode cX7_passAll 33 = .ok (.putfield 267, 3) := by decide +kernel
theorem dX7_passAll_36 : decode cX7_passAll 36 = .ok (.aload_n 0, 1) := by decide +kernel
theorem dX7_passAll_37 : decode cX7_passAll 37 = .ok (.aload_n 0, 1) := by decide +kernel
theorem dX7_passAll_38 : decode cX7_passAll 38 = .ok (.getfield 7, 3) := by decide +kernel
theorem dX7_passAll_41 : decode cX7_passAll 41 = .ok (.bipush 64, 2) := by decide +kernel
theorem dX7_passAll_43 : decode cX7_passAll 43 = .ok (.invokevirtual 321, 3) := by decide +kernel
theorem dX7_passAll_46 : decode cX7_passAll 46 = .ok (.aload_n 0, 1) := by decide +kernel
theorem dX7_passAll_47 : decode cX7_passAll 47 = .ok (.aload_n 0, 1) := by decide +kernel
theorem dX7_passAll_48 : decode cX7_passAll 48 = .ok (.getfield 13, 3) := by decide +kernel
theorem dX7_passAll_51 : decode cX7_passAll 51 = .ok (.bipush 64, 2) := by decide +kernel
theorem dX7_passAll_53 : decode cX7_passAll 53 = .ok (.invokevirtual 321, 3) := by decide +kernel
theorem dX7_passAll_56 : decode cX7_passAll 56 = .ok (.aload_n 0, 1) := by decide +kernel
theorem dX7_passAll_57 : decode cX7_passAll 57 = .ok (.aload_n 0, 1) := by decide +kernel
theorem dX7_passAll_58 : decode cX7_passAll 58 = .ok (.getfield 16, 3) := by decide +kernel
theorem dX7_passAll_61 : decode cX7_passAll 61 = .ok (.bipush 6, 2) := by decide +kernel
theorem dX7_passAll_63 : decode cX7_passAll 63 = .ok (.invokevirtual 321, 3) := by decide +kernel
theorem dX7_passAll_66 : decode cX7_passAll 66 = .ok (.aload_n 0, 1) := by decide +kernel
theorem dX7_passAll_67 : decode cX7_passAll 67 = .ok (.aload_n 0, 1) := by decide +kernel
theorem dX7_passAll_68 : decode cX7_passAll 68 = .ok (.getfield 23, 3) := by decide +kernel
theorem dX7_passAll_71 : decode cX7_passAll 71 = .ok (.bipush 6, 2) := by decide +kernel
theorem dX7_passAll_73 : decode cX7_passAll 73 = .ok (.invokevirtual 321, 3) := by decide +kernel
theorem dX7_passAll_76 : decode cX7_passAll 76 = .ok (.aload_n 0, 1) := by decide +kernel
theorem dX7_passAll_77 : decode cX7_passAll 77 = .ok (.aload_n 0, 1) := by decide +kernel
theorem dX7_passAll_78 : decode cX7_passAll 78 = .ok (.getfield 26, 3) := by decide +kernel
theorem dX7_passAll_81 : decode cX7_passAll 81 = .ok (.bipush 6, 2) := by decide +kernel
theorem dX7_passAll_83 : decode cX7_passAll 83 = .ok (.invokevirtual 321, 3) := by decide +kernel
theorem dX7_passAll_86 : decode cX7_passAll 86 = .ok (.aload_n 0, 1) := by decide +kernel
theorem dX7_passAll_87 : decode cX7_passAll 87 = .ok (.aload_n 0, 1) := by decide +kernel
theorem dX7_passAll_88 : decode cX7_passAll 88 = .ok (.getfield 29, 3) := by decide +kernel
theorem dX7_passAll_91 : decode cX7_passAll 91 = .ok (.bipush 6, 2) := by decide +kernel
theorem dX7_passAll_93 : decode cX7_passAll 93 = .ok (.invokevirtual 321, 3) := by decide +kernel
theorem dX7_passAll_96 : decode cX7_passAll 96 = .ok (.aload_n 0, 1) := by decide +kernel
theorem dX7_passAll_97 : decode cX7_passAll 97 = .ok (.aload_n 0, 1) := by decide +kernel
theorem dX7_passAll_98 : decode cX7_passAll 98 = .ok (.getfield 32, 3) := by decide +kernel
theorem dX7_passAll_101 : decode cX7_passAll 101 = .ok (.bipush 8, 2) := by decide +kernel
theorem dX7_passAll_103 : decode cX7_passAll 103 = .ok (.invokevirtual 321, 3) := by decide +kernel
theorem dX7_passAll_106 : decode cX7_passAll 106 = .ok (.aload_n 0, 1) := by decide +kernel
theorem dX7_passAll_107 : decode cX7_passAll 107 = .ok (.aload_n 0, 1) := by decide +kernel
theorem dX7_passAll_108 : decode cX7_passAll 108 = .ok (.getfield 35, 3) := by decide +kernel
theorem dX7_passAll_111 : decode cX7_passAll 111 = .ok (.bipush 8, 2) := by decide +kernel
theorem dX7_passAll_113 : decode cX7_passAll 113 = .ok (.invokevirtual 321, 3) := by decide +kernel
theorem dX7_passAll_116 : decode cX7_passAll 116 = .ok (.aload_n 0, 1) := by decide +kernel
theorem dX7_passAll_117 : decode cX7_passAll 117 = .ok (.aload_n 0, 1) := by decide +kernel
theorem dX7_passAll_118 : decode cX7_passAll 118 = .ok (.getfield 38, 3) := by decide +kernel
theorem dX7_passAll_121 : decode cX7_passAll 121 = .ok (.bipush 8, 2) := by decide +kernel
theorem dX7_passAll_123 : decode cX7_passAll 123 = .ok (.invokevirtual 321, 3) := by decide +kernel
theorem dX7_passAll_126 : decode cX7_passAll 126 = .ok (.aload_n 0, 1) := by decide +kernel
theorem dX7_passAll_127 : decode cX7_passAll 127 = .ok (.aload_n 0, 1) := by decide +kernel
theorem dX7_passAll_128 : decode cX7_passAll 128 = .ok (.getfield 41, 3) := by decide +kernel
theorem dX7_passAll_131 : decode cX7_passAll 131 = .ok (.bipush 8, 2) := by decide +kernel
theorem dX7_passAll_133 : decode cX7_passAll 133 = .ok (.invokevirtual 321, 3) := by decide +kernel
theorem dX7_passAll_136 : decode cX7_passAll 136 = .ok (.aload_n 0, 1) := by decide +kernel
theorem dX7_passAll_137 : decode cX7_passAll 137 = .ok (.aload_n 0, 1) := by decide +kernel
theorem dX7_passAll_138 : decode cX7_passAll 138 = .ok (.getfield 44, 3) := by decide +kernel
theorem dX7_passAll_141 : decode cX7_passAll 141 = .ok (.bipush 8, 2) := by decide +kernel
theorem dX7_passAll_143 : decode cX7_passAll 143 = .ok (.invokevirtual 321, 3) := by decide +kernel
theorem dX7_passAll_146 : decode cX7_passAll 146 = .ok (.iconst 0, 1) := by decide +kernel
theorem dX7_passAll_147 : decode cX7_passAll 147 = .ok (.istore_n 2, 1) := by decide +kernel
theorem dX7_passAll_148 : decode cX7_passAll 148 = .ok (.iload_n 2, 1) := by decide +kernel
theorem dX7_passAll_149 : decode cX7_passAll 149 = .ok (.bipush 6, 2) := by decide +kernel
theorem dX7_passAll_151 : decode cX7_passAll 151 = .ok (.if_icmp .ge 56, 3) := by decide +kernel
theorem dX7_passAll_154 : decode cX7_passAll 154 = .ok (.aload_n 0, 1) := by decide +kernel
theorem dX7_passAll_155 : decode cX7_passAll 155 = .ok (.getfield 311, 3) := by decide +kernel
theorem dX7_passAll_158 : decode cX7_passAll 158 = .ok (.ifCond .eq 12, 3) := by decide +kernel
theorem dX7_passAll_161 : decode cX7_passAll 161 = .ok (.aload_n 0, 1) := by decide +kernel
theorem dX7_passAll_162 : decode cX7_passAll 162 = .ok (.getfield 19, 3) := by decide +kernel
theorem dX7_passAll_165 : decode cX7_passAll 165 = .ok (.iload_n 2, 1) := by decide +kernel
theorem dX7_passAll_166 : decode cX7_passAll 166 = .ok (.laload, 1) := by decide +kernel
theorem dX7_passAll_167 : decode cX7_passAll 167 = .ok (.goto 14, 3) := by decide +kernel
theorem dX7_passAll_170 : decode cX7_passAll 170 = .ok (.aload_n 0, 1) := by decide +kernel
theorem dX7_passAll_171 : decode cX7_passAll 171 = .ok (.getfield 77, 3) := by decide +kernel
theorem dX7_passAll_174 : decode cX7_passAll 174 = .ok (.bipush 6, 2) := by decide +kernel
theorem dX7_passAll_176 : decode cX7_passAll 176 = .ok (.iload_n 1, 1) := by decide +kernel
theorem dX7_passAll_177 : decode cX7_passAll 177 = .ok (.imul, 1) := by decide +kernel
theorem dX7_passAll_178 : decode cX7_passAll 178 = .ok (.iload_n 2, 1) := by decide +kernel
theorem dX7_passAll_179 : decode cX7_passAll 179 = .ok (.iadd, 1) := by decide +kernel
theorem dX7_passAll_180 : decode cX7_passAll 180 = .ok (.laload, 1) := by decide +kernel
theorem dX7_passAll_181 : decode cX7_passAll 181 = .ok (.lstore_n 3, 1) := by decide +kernel
theorem dX7_passAll_182 : decode cX7_passAll 182 = .ok (.aload_n 0, 1) := by decide +kernel
theorem dX7_passAll_183 : decode cX7_passAll 183 = .ok (.getfield 77, 3) := by decide +kernel
theorem dX7_passAll_186 : decode cX7_passAll 186 = .ok (.bipush 6, 2) := by decide +kernel
theorem dX7_passAll_188 : decode cX7_passAll 188 = .ok (.iload_n 1, 1) := by decide +kernel
theorem dX7_passAll_189 : decode cX7_passAll 189 = .ok (.imul, 1) := by decide +kernel
theorem dX7_passAll_190 : decode cX7_passAll 190 = .ok (.iload_n 2, 1) := by decide +kernel
theorem dX7_passAll_191 : decode cX7_passAll 191 = .ok (.iadd, 1) := by decide +kernel
theorem dX7_passAll_192 : decode cX7_passAll 192 = .ok (.lload_n 3, 1) := by decide +kernel
theorem dX7_passAll_193 : decode cX7_passAll 193 = .ok (.lastore, 1) := by decide +kernel
theorem dX7_passAll_194 : decode cX7_passAll 194 = .ok (.aload_n 0, 1) := by decide +kernel
theorem dX7_passAll_195 : decode cX7_passAll 195 = .ok (.getfield 19, 3) := by decide +kernel
theorem dX7_passAll_198 : decode cX7_passAll 198 = .ok (.iload_n 2, 1) := by decide +kernel
theorem dX7_passAll_199 : decode cX7_passAll 199 = .ok (.lload_n 3, 1) := by decide +kernel
theorem dX7_passAll_200 : decode cX7_passAll 200 = .ok (.lastore, 1) := by decide +kernel
theorem dX7_passAll_201 : decode cX7_passAll 201 = .ok (.iinc 2 1, 3) := by decide +kernel
theorem dX7_passAll_204 : decode cX7_passAll 204 = .ok (.goto (-56), 3) := by decide +kernel
theorem dX7_passAll_207 : decode cX7_passAll 207 = .ok (.return_, 1) := by decide +kernel
theorem dX7_image_0 : decode cX7_image 0 = .ok (.iload_n 1, 1) := by decide +kernel
theorem dX7_image_1 : decode cX7_image 1 = .ok (.i2l, 1) := by decide +kernel
theorem dX7_image_2 : decode cX7_image 2 = .ok (.lconst 0, 1) := by decide +kernel
theorem dX7_image_3 : decode cX7_image 3 = .ok (.lconst 1, 1) := by decide +kernel
theorem dX7_image_4 : decode cX7_image 4 = .ok (.invokestatic 86, 3) := by decide +kernel
theorem dX7_image_7 : decode cX7_image 7 = .ok (.ifCond .ne 6, 3) := by decide +kernel
theorem dX7_image_10 : decode cX7_image 10 = .ok (.bipush (-2), 2) := by decide +kernel
theorem dX7_image_12 : decode cX7_image 12 = .ok (.ireturn, 1) := by decide +kernel
theorem dX7_image_13 : decode cX7_image 13 = .ok (.aload_n 0, 1) := by decide +kernel
theorem dX7_image_14 : decode cX7_image 14 = .ok (.sipush 230, 3) := by decide +kernel
theorem dX7_image_17 : decode cX7_image 17 = .ok (.iload_n 1, 1) := by decide +kernel
theorem dX7_image_18 : decode cX7_image 18 = .ok (.imul, 1) := by decide +kernel
theorem dX7_image_19 : decode cX7_image 19 = .ok (.putfield 315, 3) := by decide +kernel
theorem dX7_image_22 : decode cX7_image 22 = .ok (.aload_n 0, 1) := by decide +kernel
theorem dX7_image_23 : decode cX7_image 23 = .ok (.iconst 1, 1) := by decide +kernel
theorem dX7_image_24 : decode cX7_image 24 = .ok (.putfield 311, 3) := by decide +kernel
theorem dX7_image_27 : decode cX7_image 27 = .ok (.aload_n 0, 1) := by decide +kernel
theorem dX7_image_28 : decode cX7_image 28 = .ok (.iload_n 1, 1) := by decide +kernel
theorem dX7_image_29 : decode cX7_image 29 = .ok (.invokevirtual 325, 3) := by decide +kernel
theorem dX7_image_32 : decode cX7_image 32 = .ok (.aload_n 0, 1) := by decide +kernel
theorem dX7_image_33 : decode cX7_image 33 = .ok (.getfield 80, 3) := by decide +kernel
theorem dX7_image_36 : decode cX7_image 36 = .ok (.iload_n 1, 1) := by decide +kernel
theorem dX7_image_37 : decode cX7_image 37 = .ok (.iconst 1, 1) := by decide +kernel
theorem dX7_image_38 : decode cX7_image 38 = .ok (.bastore, 1) := by decide +kernel
theorem dX7_image_39 : decode cX7_image 39 = .ok (.iconst 1, 1) := by decide +kernel
theorem dX7_image_40 : decode cX7_image 40 = .ok (.ireturn, 1) := by decide +kernel
theorem dX7_restore_0 : decode cX7_restore 0 = .ok (.iload_n 1, 1) := by decide +kernel
theorem dX7_restore_1 : decode cX7_restore 1 = .ok (.i2l, 1) := by decide +kernel
theorem dX7_restore_2 : decode cX7_restore 2 = .ok (.lconst 0, 1) := by decide +kernel
theorem dX7_restore_3 : decode cX7_restore 3 = .ok (.lconst 1, 1) := by decide +kernel
theorem dX7_restore_4 : decode cX7_restore 4 = .ok (.invokestatic 86, 3) := by decide +kernel
theorem dX7_restore_7 : decode cX7_restore 7 = .ok (.ifCond .ne 6, 3) := by decide +kernel
theorem dX7_restore_10 : decode cX7_restore 10 = .ok (.bipush (-2), 2) := by decide +kernel
theorem dX7_restore_12 : decode cX7_restore 12 = .ok (.ireturn, 1) := by decide +kernel
theorem dX7_restore_13 : decode cX7_restore 13 = .ok (.aload_n 0, 1) := by decide +kernel
theorem dX7_restore_14 : decode cX7_restore 14 = .ok (.getfield 80, 3) := by decide +kernel
theorem dX7_restore_17 : decode cX7_restore 17 = .ok (.iload_n 1, 1) := by decide +kernel
theorem dX7_restore_18 : decode cX7_restore 18 = .ok (.baload, 1) := by decide +kernel
theorem dX7_restore_19 : decode cX7_restore 19 = .ok (.ifCond .ne 6, 3) := by decide +kernel
theorem dX7_restore_22 : decode cX7_restore 22 = .ok (.bipush (-3), 2) := by decide +kernel
theorem dX7_restore_24 : decode cX7_restore 24 = .ok (.ireturn, 1) := by decide +kernel
theorem dX7_restore_25 : decode cX7_restore 25 = .ok (.aload_n 0, 1) := by decide +kernel
theorem dX7_restore_26 : decode cX7_restore 26 = .ok (.sipush 230, 3) := by decide +kernel
theorem dX7_restore_29 : decode cX7_restore 29 = .ok (.iload_n 1, 1) := by decide +kernel
theorem dX7_restore_30 : decode cX7_restore 30 = .ok (.imul, 1) := by decide +kernel
theorem dX7_restore_31 : decode cX7_restore 31 = .ok (.putfield 315, 3) := by decide +kernel
theorem dX7_restore_34 : decode cX7_restore 34 = .ok (.aload_n 0, 1) := by decide +kernel
theorem dX7_restore_35 : decode cX7_restore 35 = .ok (.iconst 0, 1) := by decide +kernel
theorem dX7_restore_36 : decode cX7_restore 36 = .ok (.putfield 311, 3) := by decide +kernel
theorem dX7_restore_39 : decode cX7_restore 39 = .ok (.aload_n 0, 1) := by decide +kernel
theorem dX7_restore_40 : decode cX7_restore 40 = .ok (.iload_n 1, 1) := by decide +kernel
theorem dX7_restore_41 : decode cX7_restore 41 = .ok (.invokevirtual 325, 3) := by decide +kernel
theorem dX7_restore_44 : decode cX7_restore 44 = .ok (.iconst 1, 1) := by decide +kernel
theorem dX7_restore_45 : decode cX7_restore 45 = .ok (.ireturn, 1) := by decide +kernel
theorem dX7_toldOf_0 : decode cX7_toldOf 0 = .ok (.aload_n 0, 1) := by decide +kernel
theorem dX7_toldOf_1 : decode cX7_toldOf 1 = .ok (.iload_n 1, 1) := by decide +kernel
theorem dX7_toldOf_2 : decode cX7_toldOf 2 = .ok (.invokevirtual 106, 3) := by decide +kernel
theorem dX7_toldOf_5 : decode cX7_toldOf 5 = .ok (.ifCond .ne 6, 3) := by decide +kernel
theorem dX7_toldOf_8 : decode cX7_toldOf 8 = .ok (.bipush (-2), 2) := by decide +kernel
theorem dX7_toldOf_10 : decode cX7_toldOf 10 = .ok (.ireturn, 1) := by decide +kernel
theorem dX7_toldOf_11 : decode cX7_toldOf 11 = .ok (.iload_n 2, 1) := by decide +kernel
theorem dX7_toldOf_12 : decode cX7_toldOf 12 = .ok (.tableswitch 80 0 5 #[40, 47, 53, 60, 67, 74], 40) := by decide +kernel
theorem dX7_toldOf_52 : decode cX7_toldOf 52 = .ok (.aload_n 0, 1) := by decide +kernel
theorem dX7_toldOf_53 : decode cX7_toldOf 53 = .ok (.getfield 16, 3) := by decide +kernel
theorem dX7_toldOf_56 : decode cX7_toldOf 56 = .ok (.iload_n 1, 1) := by decide +kernel
theorem dX7_toldOf_57 : decode cX7_toldOf 57 = .ok (.iaload, 1) := by decide +kernel
theorem dX7_toldOf_58 : decode cX7_toldOf 58 = .ok (.ireturn, 1) := by decide +kernel
theorem dX7_toldOf_59 : decode cX7_toldOf 59 = .ok (.aload_n 0, 1) := by decide +kernel
theorem dX7_toldOf_60 : decode cX7_toldOf 60 = .ok (.iload_n 1, 1) := by decide +kernel
theorem dX7_toldOf_61 : decode cX7_toldOf 61 = .ok (.invokevirtual 213, 3) := by decide +kernel
theorem dX7_toldOf_64 : decode cX7_toldOf 64 = .ok (.ireturn, 1) := by decide +kernel
theorem dX7_toldOf_65 : decode cX7_toldOf 65 = .ok (.aload_n 0, 1) := by decide +kernel
theorem dX7_toldOf_66 : decode cX7_toldOf 66 = .ok (.getfield 29, 3) := by decide +kernel
theorem dX7_toldOf_69 : decode cX7_toldOf 69 = .ok (.iload_n 1, 1) := by decide +kernel
theorem dX7_toldOf_70 : decode cX7_toldOf 70 = .ok (.iaload, 1) := by decide +kernel
theorem dX7_toldOf_71 : decode cX7_toldOf 71 = .ok (.ireturn, 1) := by decide +kernel
theorem dX7_toldOf_72 : decode cX7_toldOf 72 = .ok (.aload_n 0, 1) := by decide +kernel
theorem dX7_toldOf_73 : decode cX7_toldOf 73 = .ok (.getfield 23, 3) := by decide +kernel
theorem dX7_toldOf_76 : decode cX7_toldOf 76 = .ok (.iload_n 1, 1) := by decide +kernel
theorem dX7_toldOf_77 : decode cX7_toldOf 77 = .ok (.iaload, 1) := by decide +kernel
theorem dX7_toldOf_78 : decode cX7_toldOf 78 = .ok (.ireturn, 1) := by decide +kernel
theorem dX7_toldOf_79 : decode cX7_toldOf 79 = .ok (.aload_n 0, 1) := by decide +kernel
theorem dX7_toldOf_80 : decode cX7_toldOf 80 = .ok (.getfield 26, 3) := by decide +kernel
theorem dX7_toldOf_83 : decode cX7_toldOf 83 = .ok (.iload_n 1, 1) := by decide +kernel
theorem dX7_toldOf_84 : decode cX7_toldOf 84 = .ok (.iaload, 1) := by decide +kernel
theorem dX7_toldOf_85 : decode cX7_toldOf 85 = .ok (.ireturn, 1) := by decide +kernel
theorem dX7_toldOf_86 : decode cX7_toldOf 86 = .ok (.aload_n 0, 1) := by decide +kernel
theorem dX7_toldOf_87 : decode cX7_toldOf 87 = .ok (.iload_n 1, 1) := by decide +kernel
theorem dX7_toldOf_88 : decode cX7_toldOf 88 = .ok (.invokevirtual 111, 3) := by decide +kernel
theorem dX7_toldOf_91 : decode cX7_toldOf 91 = .ok (.ireturn, 1) := by decide +kernel
theorem dX7_toldOf_92 : decode cX7_toldOf 92 = .ok (.bipush (-2), 2) := by decide +kernel
theorem dX7_toldOf_94 : decode cX7_toldOf 94 = .ok (.ireturn, 1) := by decide +kernel
theorem dX7_told_0 : decode cX7_told 0 = .ok (.iload_n 1, 1) := by decide +kernel
theorem dX7_told_1 : decode cX7_told 1 = .ok (.i2l, 1) := by decide +kernel
theorem dX7_told_2 : decode cX7_told 2 = .ok (.ldc2_w 328, 3) := by decide +kernel
theorem dX7_told_5 : decode cX7_told 5 = .ok (.ldc2_w 330, 3) := by decide +kernel
theorem dX7_told_8 : decode cX7_told 8 = .ok (.invokestatic 86, 3) := by decide +kernel
theorem dX7_told_11 : decode cX7_told 11 = .ok (.ifCond .eq 54, 3) := by decide +kernel
theorem dX7_told_14 : decode cX7_told 14 = .ok (.iload_n 1, 1) := by decide +kernel
theorem dX7_told_15 : decode cX7_told 15 = .ok (.sipush 200, 3) := by decide +kernel
theorem dX7_told_18 : decode cX7_told 18 = .ok (.idiv, 1) := by decide +kernel
theorem dX7_told_19 : decode cX7_told 19 = .ok (.iconst 1, 1) := by decide +kernel
theorem dX7_told_20 : decode cX7_told 20 = .ok (.isub, 1) := by decide +kernel
theorem dX7_told_21 : decode cX7_told 21 = .ok (.istore_n 2, 1) := by decide +kernel
theorem dX7_told_22 : decode cX7_told 22 = .ok (.aload_n 0, 1) := by decide +kernel
theorem dX7_told_23 : decode cX7_told 23 = .ok (.iload_n 2, 1) := by decide +kernel
theorem dX7_told_24 : decode cX7_told 24 = .ok (.invokevirtual 106, 3) := by decide +kernel
theorem dX7_told_27 : decode cX7_told 27 = .ok (.ifCond .eq 35, 3) := by decide +kernel
theorem dX7_told_30 : decode cX7_told 30 = .ok (.iload_n 1, 1) := by decide +kernel
theorem dX7_told_31 : decode cX7_told 31 = .ok (.sipush 200, 3) := by decide +kernel
theorem dX7_told_34 : decode cX7_told 34 = .ok (.irem, 1) := by decide +kernel
theorem dX7_told_35 : decode cX7_told 35 = .ok (.invokestatic 96, 3) := by decide +kernel
theorem dX7_told_38 : decode cX7_told 38 = .ok (.ifCond .eq 24, 3) := by decide +kernel
theorem dX7_told_41 : decode cX7_told 41 = .ok (.aload_n 0, 1) := by decide +kernel
theorem dX7_told_42 : decode cX7_told 42 = .ok (.iload_n 2, 1) := by decide +kernel
theorem dX7_told_43 : decode cX7_told 43 = .ok (.iload_n 1, 1) := by decide +kernel
theorem dX7_told_44 : decode cX7_told 44 = .ok (.sipush 200, 3) := by decide +kernel
theorem dX7_told_47 : decode cX7_told 47 = .ok (.irem, 1) := by decide +kernel
theorem dX7_told_48 : decode cX7_told 48 = .ok (.invokevirtual 114, 3) := by decide +kernel
theorem dX7_told_51 : decode cX7_told 51 = .ok (.ifCond .eq 7, 3) := by decide +kernel
theorem dX7_told_54 : decode cX7_told 54 = .ok (.iconst 1, 1) := by decide +kernel
theorem dX7_told_55 : decode cX7_told 55 = .ok (.goto 9, 3) := by decide +kernel
theorem dX7_told_58 : decode cX7_told 58 = .ok (.iconst 0, 1) := by decide +kernel
theorem dX7_told_59 : decode cX7_told 59 = .ok (.goto 5, 3) := by decide +kernel
theorem dX7_told_62 : decode cX7_told 62 = .ok (.bipush (-2), 2) := by decide +kernel
theorem dX7_told_64 : decode cX7_told 64 = .ok (.ireturn, 1) := by decide +kernel
theorem dX7_told_65 : decode cX7_told 65 = .ok (.iload_n 1, 1) := by decide +kernel
theorem dX7_told_66 : decode cX7_told 66 = .ok (.i2l, 1) := by decide +kernel
theorem dX7_told_67 : decode cX7_told 67 = .ok (.ldc2_w 332, 3) := by decide +kernel
theorem dX7_told_70 : decode cX7_told 70 = .ok (.ldc2_w 334, 3) := by decide +kernel
theorem dX7_told_73 : decode cX7_told 73 = .ok (.invokestatic 86, 3) := by decide +kernel
theorem dX7_told_76 : decode cX7_told 76 = .ok (.ifCond .eq 39, 3) := by decide +kernel
theorem dX7_told_79 : decode cX7_told 79 = .ok (.iload_n 1, 1) := by decide +kernel
theorem dX7_told_80 : decode cX7_told 80 = .ok (.bipush 100, 2) := by decide +kernel
theorem dX7_told_82 : decode cX7_told 82 = .ok (.isub, 1) := by decide +kernel
theorem dX7_told_83 : decode cX7_told 83 = .ok (.istore_n 2, 1) := by decide +kernel
theorem dX7_told_84 : decode cX7_told 84 = .ok (.bipush 10, 2) := by decide +kernel
theorem dX7_told_86 : decode cX7_told 86 = .ok (.aload_n 0, 1) := by decide +kernel
theorem dX7_told_87 : decode cX7_told 87 = .ok (.getfield 7, 3) := by decide +kernel
theorem dX7_told_90 : decode cX7_told 90 = .ok (.iload_n 2, 1) := by decide +kernel
theorem dX7_told_91 : decode cX7_told 91 = .ok (.iaload, 1) := by decide +kernel
theorem dX7_told_92 : decode cX7_told 92 = .ok (.imul, 1) := by decide +kernel
theorem dX7_told_93 : decode cX7_told 93 = .ok (.aload_n 0, 1) := by decide +kernel
theorem dX7_told_94 : decode cX7_told 94 = .ok (.getfield 13, 3) := by decide +kernel
theorem dX7_told_97 : decode cX7_told 97 = .ok (.iload_n 2, 1) := by decide +kernel
theorem dX7_told_98 : decode cX7_told 98 = .ok (.iaload, 1) := by decide +kernel
theorem dX7_told_99 : decode cX7_told 99 = .ok (.ifCond .ge 8, 3) := by decide +kernel
theorem dX7_told_102 : decode cX7_told 102 = .ok (.bipush 9, 2) := by decide +kernel
theorem dX7_told_104 : decode cX7_told 104 = .ok (.goto 9, 3) := by decide +kernel
theorem dX7_told_107 : decode cX7_told 107 = .ok (.aload_n 0, 1) := by decide +kernel
theorem dX7_told_108 : decode cX7_told 108 = .ok (.getfield 13, 3) := by decide +kernel
theorem dX7_told_111 : decode cX7_told 111 = .ok (.iload_n 2, 1) := by decide +kernel
theorem dX7_told_112 : decode cX7_told 112 = .ok (.iaload, 1) := by decide +kernel
theorem dX7_told_113 : decode cX7_told 113 = .ok (.iadd, 1) := by decide +kernel
theorem dX7_told_114 : decode cX7_told 114 = .ok (.ireturn, 1) := by decide +kernel
theorem dX7_told_115 : decode cX7_told 115 = .ok (.iload_n 1, 1) := by decide +kernel
theorem dX7_told_116 : decode cX7_told 116 = .ok (.i2l, 1) := by decide +kernel
theorem dX7_told_117 : decode cX7_told 117 = .ok (.ldc2_w 294, 3) := by decide +kernel
theorem dX7_told_120 : decode cX7_told 120 = .ok (.ldc2_w 336, 3) := by decide +kernel
theorem dX7_told_123 : decode cX7_told 123 = .ok (.invokestatic 86, 3) := by decide +kernel
theorem dX7_told_126 : decode cX7_told 126 = .ok (.ifCond .eq 18, 3) := by decide +kernel
theorem dX7_told_129 : decode cX7_told 129 = .ok (.aload_n 0, 1) := by decide +kernel
theorem dX7_told_130 : decode cX7_told 130 = .ok (.iload_n 1, 1) := by decide +kernel
theorem dX7_told_131 : decode cX7_told 131 = .ok (.bipush 10, 2) := by decide +kernel
theorem dX7_told_133 : decode cX7_told 133 = .ok (.idiv, 1) := by decide +kernel
theorem dX7_told_134 : decode cX7_told 134 = .ok (.iconst 1, 1) := by decide +kernel
theorem dX7_told_135 : decode cX7_told 135 = .ok (.isub, 1) := by decide +kernel
theorem dX7_told_136 : decode cX7_told 136 = .ok (.iload_n 1, 1) := by decide +kernel
theorem dX7_told_137 : decode cX7_told 137 = .ok (.bipush 10, 2) := by decide +kernel
theorem dX7_told_139 : decode cX7_told 139 = .ok (.irem, 1) := by decide +kernel
theorem dX7_told_140 : decode cX7_told 140 = .ok (.invokevirtual 338, 3) := by decide +kernel
theorem dX7_told_143 : decode cX7_told 143 = .ok (.ireturn, 1) := by decide +kernel
theorem dX7_told_144 : decode cX7_told 144 = .ok (.iload_n 1, 1) := by decide +kernel
theorem dX7_told_145 : decode cX7_told 145 = .ok (.ifCond .ne 10, 3) := by decide +kernel
theorem dX7_told_148 : decode cX7_told 148 = .ok (.aload_n 0, 1) := by decide +kernel
theorem dX7_told_149 : decode cX7_told 149 = .ok (.getfield 129, 3) := by decide +kernel
theorem dX7_told_152 : decode cX7_told 152 = .ok (.goto 41, 3) := by decide +kernel
theorem dX7_told_155 : decode cX7_told 155 = .ok (.iload_n 1, 1) := by decide +kernel
theorem dX7_told_156 : decode cX7_told 156 = .ok (.iconst 1, 1) := by decide +kernel
theorem dX7_told_157 : decode cX7_told 157 = .ok (.if_icmp .ne 10, 3) := by decide +kernel
theorem dX7_told_160 : decode cX7_told 160 = .ok (.aload_n 0, 1) := by decide +kernel
theorem dX7_told_161 : decode cX7_told 161 = .ok (.getfield 92, 3) := by decide +kernel
theorem dX7_told_164 : decode cX7_told 164 = .ok (.goto 29, 3) := by decide +kernel
theorem dX7_told_167 : decode cX7_told 167 = .ok (.iload_n 1, 1) := by decide +kernel
theorem dX7_told_168 : decode cX7_told 168 = .ok (.iconst 2, 1) := by decide +kernel
theorem dX7_told_169 : decode cX7_told 169 = .ok (.if_icmp .ne 10, 3) := by decide +kernel
theorem dX7_told_172 : decode cX7_told 172 = .ok (.aload_n 0, 1) := by decide +kernel
theorem dX7_told_173 : decode cX7_told 173 = .ok (.getfield 243, 3) := by decide +kernel
theorem dX7_told_176 : decode cX7_told 176 = .ok (.goto 17, 3) := by decide +kernel
theorem dX7_told_179 : decode cX7_told 179 = .ok (.iload_n 1, 1) := by decide +kernel
theorem dX7_told_180 : decode cX7_told 180 = .ok (.iconst 3, 1) := by decide +kernel
theorem dX7_told_181 : decode cX7_told 181 = .ok (.if_icmp .ne 10, 3) := by decide +kernel
theorem dX7_told_184 : decode cX7_told 184 = .ok (.aload_n 0, 1) := by decide +kernel
theorem dX7_told_185 : decode cX7_told 185 = .ok (.getfield 267, 3) := by decide +kernel
theorem dX7_told_188 : decode cX7_told 188 = .ok (.goto 5, 3) := by decide +kernel
theorem dX7_told_191 : decode cX7_told 191 = .ok (.bipush (-2), 2) := by decide +kernel
theorem dX7_told_193 : decode cX7_told 193 = .ok (.ireturn, 1) := by decide +kernel
