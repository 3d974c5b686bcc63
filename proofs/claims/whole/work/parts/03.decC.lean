theorem dX8_init_0 : decode cX8_init 0 = .ok (.aload_n 0, 1) := by decide +kernel
theorem dX8_init_1 : decode cX8_init 1 = .ok (.invokespecial 1, 3) := by decide +kernel
theorem dX8_init_4 : decode cX8_init 4 = .ok (.aload_n 0, 1) := by decide +kernel
theorem dX8_init_5 : decode cX8_init 5 = .ok (.sipush 200, 3) := by decide +kernel
theorem dX8_init_8 : decode cX8_init 8 = .ok (.newarray .byte, 2) := by decide +kernel
theorem dX8_init_10 : decode cX8_init 10 = .ok (.putfield 7, 3) := by decide +kernel
theorem dX8_init_13 : decode cX8_init 13 = .ok (.aload_n 0, 1) := by decide +kernel
theorem dX8_init_14 : decode cX8_init 14 = .ok (.bipush 16, 2) := by decide +kernel
theorem dX8_init_16 : decode cX8_init 16 = .ok (.newarray .boolean, 2) := by decide +kernel
theorem dX8_init_18 : decode cX8_init 18 = .ok (.putfield 13, 3) := by decide +kernel
theorem dX8_init_21 : decode cX8_init 21 = .ok (.aload_n 0, 1) := by decide +kernel
theorem dX8_init_22 : decode cX8_init 22 = .ok (.sipush 1344, 3) := by decide +kernel
theorem dX8_init_25 : decode cX8_init 25 = .ok (.newarray .boolean, 2) := by decide +kernel
theorem dX8_init_27 : decode cX8_init 27 = .ok (.putfield 17, 3) := by decide +kernel
theorem dX8_init_30 : decode cX8_init 30 = .ok (.aload_n 0, 1) := by decide +kernel
theorem dX8_init_31 : decode cX8_init 31 = .ok (.bipush 16, 2) := by decide +kernel
theorem dX8_init_33 : decode cX8_init 33 = .ok (.newarray .int, 2) := by decide +kernel
theorem dX8_init_35 : decode cX8_init 35 = .ok (.putfield 20, 3) := by decide +kernel
theorem dX8_init_38 : decode cX8_init 38 = .ok (.aload_n 0, 1) := by decide +kernel
theorem dX8_init_39 : decode cX8_init 39 = .ok (.bipush 16, 2) := by decide +kernel
theorem dX8_init_41 : decode cX8_init 41 = .ok (.newarray .int, 2) := by decide +kernel
theorem dX8_init_43 : decode cX8_init 43 = .ok (.putfield 24, 3) := by decide +kernel
theorem dX8_init_46 : decode cX8_init 46 = .ok (.aload_n 0, 1) := by decide +kernel
theorem dX8_init_47 : decode cX8_init 47 = .ok (.bipush 16, 2) := by decide +kernel
theorem dX8_init_49 : decode cX8_init 49 = .ok (.newarray .int, 2) := by decide +kernel
theorem dX8_init_51 : decode cX8_init 51 = .ok (.putfield 27, 3) := by decide +kernel
theorem dX8_init_54 : decode cX8_init 54 = .ok (.aload_n 0, 1) := by decide +kernel
theorem dX8_init_55 : decode cX8_init 55 = .ok (.sipush 600, 3) := by decide +kernel
theorem dX8_init_58 : decode cX8_init 58 = .ok (.newarray .int, 2) := by decide +kernel
theorem dX8_init_60 : decode cX8_init 60 = .ok (.putfield 30, 3) := by decide +kernel
theorem dX8_init_63 : decode cX8_init 63 = .ok (.aload_n 0, 1) := by decide +kernel
theorem dX8_init_64 : decode cX8_init 64 = .ok (.sipush 600, 3) := by decide +kernel
theorem dX8_init_67 : decode cX8_init 67 = .ok (.newarray .int, 2) := by decide +kernel
theorem dX8_init_69 : decode cX8_init 69 = .ok (.putfield 33, 3) := by decide +kernel
theorem dX8_init_72 : decode cX8_init 72 = .ok (.aload_n 0, 1) := by decide +kernel
theorem dX8_init_73 : decode cX8_init 73 = .ok (.sipush 600, 3) := by decide +kernel
theorem dX8_init_76 : decode cX8_init 76 = .ok (.newarray .int, 2) := by decide +kernel
theorem dX8_init_78 : decode cX8_init 78 = .ok (.putfield 36, 3) := by decide +kernel
theorem dX8_init_81 : decode cX8_init 81 = .ok (.aload_n 0, 1) := by decide +kernel
theorem dX8_init_82 : decode cX8_init 82 = .ok (.sipush 600, 3) := by decide +kernel
theorem dX8_init_85 : decode cX8_init 85 = .ok (.newarray .int, 2) := by decide +kernel
theorem dX8_init_87 : decode cX8_init 87 = .ok (.putfield 39, 3) := by decide +kernel
theorem dX8_init_90 : decode cX8_init 90 = .ok (.aload_n 0, 1) := by decide +kernel
theorem dX8_init_91 : decode cX8_init 91 = .ok (.sipush 1800, 3) := by decide +kernel
theorem dX8_init_94 : decode cX8_init 94 = .ok (.newarray .int, 2) := by decide +kernel
theorem dX8_init_96 : decode cX8_init 96 = .ok (.putfield 42, 3) := by decide +kernel
theorem dX8_init_99 : decode cX8_init 99 = .ok (.aload_n 0, 1) := by decide +kernel
theorem dX8_init_100 : decode cX8_init 100 = .ok (.sipush 1344, 3) := by decide +kernel
theorem dX8_init_103 : decode cX8_init 103 = .ok (.newarray .int, 2) := by decide +kernel
theorem dX8_init_105 : decode cX8_init 105 = .ok (.putfield 45, 3) := by decide +kernel
theorem dX8_init_108 : decode cX8_init 108 = .ok (.aload_n 0, 1) := by decide +kernel
theorem dX8_init_109 : decode cX8_init 109 = .ok (.bipush 16, 2) := by decide +kernel
theorem dX8_init_111 : decode cX8_init 111 = .ok (.newarray .boolean, 2) := by decide +kernel
theorem dX8_init_113 : decode cX8_init 113 = .ok (.putfield 48, 3) := by decide +kernel
theorem dX8_init_116 : decode cX8_init 116 = .ok (.aload_n 0, 1) := by decide +kernel
theorem dX8_init_117 : decode cX8_init 117 = .ok (.bipush 7, 2) := by decide +kernel
theorem dX8_init_119 : decode cX8_init 119 = .ok (.newarray .long, 2) := by decide +kernel
theorem dX8_init_121 : decode cX8_init 121 = .ok (.putfield 51, 3) := by decide +kernel
theorem dX8_init_124 : decode cX8_init 124 = .ok (.aload_n 0, 1) := by decide +kernel
theorem dX8_init_125 : decode cX8_init 125 = .ok (.bipush 12, 2) := by decide +kernel
theorem dX8_init_127 : decode cX8_init 127 = .ok (.newarray .long, 2) := by decide +kernel
theorem dX8_init_129 : decode cX8_init 129 = .ok (.putfield 55, 3) := by decide +kernel
theorem dX8_init_132 : decode cX8_init 132 = .ok (.aload_n 0, 1) := by decide +kernel
theorem dX8_init_133 : decode cX8_init 133 = .ok (.iconst 4, 1) := by decide +kernel
theorem dX8_init_134 : decode cX8_init 134 = .ok (.newarray .int, 2) := by decide +kernel
theorem dX8_init_136 : decode cX8_init 136 = .ok (.putfield 58, 3) := by decide +kernel
theorem dX8_init_139 : decode cX8_init 139 = .ok (.aload_n 0, 1) := by decide +kernel
theorem dX8_init_140 : decode cX8_init 140 = .ok (.iconst 4, 1) := by decide +kernel
theorem dX8_init_141 : decode cX8_init 141 = .ok (.newarray .long, 2) := by decide +kernel
theorem dX8_init_143 : decode cX8_init 143 = .ok (.putfield 61, 3) := by decide +kernel
theorem dX8_init_146 : decode cX8_init 146 = .ok (.aload_n 0, 1) := by decide +kernel
theorem dX8_init_147 : decode cX8_init 147 = .ok (.iconst 4, 1) := by decide +kernel
theorem dX8_init_148 : decode cX8_init 148 = .ok (.newarray .long, 2) := by decide +kernel
theorem dX8_init_150 : decode cX8_init 150 = .ok (.putfield 64, 3) := by decide +kernel
theorem dX8_init_153 : decode cX8_init 153 = .ok (.aload_n 0, 1) := by decide +kernel
theorem dX8_init_154 : decode cX8_init 154 = .ok (.bipush 16, 2) := by decide +kernel
theorem dX8_init_156 : decode cX8_init 156 = .ok (.newarray .int, 2) := by decide +kernel
theorem dX8_init_158 : decode cX8_init 158 = .ok (.putfield 67, 3) := by decide +kernel
theorem dX8_init_161 : decode cX8_init 161 = .ok (.aload_n 0, 1) := by decide +kernel
theorem dX8_init_162 : decode cX8_init 162 = .ok (.bipush 16, 2) := by decide +kernel
theorem dX8_init_164 : decode cX8_init 164 = .ok (.newarray .int, 2) := by decide +kernel
theorem dX8_init_166 : decode cX8_init 166 = .ok (.putfield 70, 3) := by decide +kernel
theorem dX8_init_169 : decode cX8_init 169 = .ok (.aload_n 0, 1) := by decide +kernel
theorem dX8_init_170 : decode cX8_init 170 = .ok (.bipush 8, 2) := by decide +kernel
theorem dX8_init_172 : decode cX8_init 172 = .ok (.newarray .int, 2) := by decide +kernel
theorem dX8_init_174 : decode cX8_init 174 = .ok (.putfield 73, 3) := by decide +kernel
theorem dX8_init_177 : decode cX8_init 177 = .ok (.aload_n 0, 1) := by decide +kernel
theorem dX8_init_178 : decode cX8_init 178 = .ok (.iconst 4, 1) := by decide +kernel
theorem dX8_init_179 : decode cX8_init 179 = .ok (.newarray .int, 2) := by decide +kernel
theorem dX8_init_181 : decode cX8_init 181 = .ok (.putfield 76, 3) := by decide +kernel
theorem dX8_init_184 : decode cX8_init 184 = .ok (.aload_n 0, 1) := by decide +kernel
theorem dX8_init_185 : decode cX8_init 185 = .ok (.bipush 16, 2) := by decide +kernel
theorem dX8_init_187 : decode cX8_init 187 = .ok (.newarray .long, 2) := by decide +kernel
theorem dX8_init_189 : decode cX8_init 189 = .ok (.putfield 79, 3) := by decide +kernel
theorem dX8_init_192 : decode cX8_init 192 = .ok (.aload_n 0, 1) := by decide +kernel
theorem dX8_init_193 : decode cX8_init 193 = .ok (.iconst 4, 1) := by decide +kernel
theorem dX8_init_194 : decode cX8_init 194 = .ok (.newarray .long, 2) := by decide +kernel
theorem dX8_init_196 : decode cX8_init 196 = .ok (.putfield 82, 3) := by decide +kernel
theorem dX8_init_199 : decode cX8_init 199 = .ok (.aload_n 0, 1) := by decide +kernel
theorem dX8_init_200 : decode cX8_init 200 = .ok (.bipush 8, 2) := by decide +kernel
theorem dX8_init_202 : decode cX8_init 202 = .ok (.newarray .long, 2) := by decide +kernel
theorem dX8_init_204 : decode cX8_init 204 = .ok (.putfield 85, 3) := by decide +kernel
theorem dX8_init_207 : decode cX8_init 207 = .ok (.aload_n 0, 1) := by decide +kernel
theorem dX8_init_208 : decode cX8_init 208 = .ok (.bipush 8, 2) := by decide +kernel
theorem dX8_init_210 : decode cX8_init 210 = .ok (.newarray .boolean, 2) := by decide +kernel
theorem dX8_init_212 : decode cX8_init 212 = .ok (.putfield 88, 3) := by decide +kernel
theorem dX8_init_215 : decode cX8_init 215 = .ok (.return_, 1) := by decide +kernel
theorem dX8_thrown_0 : decode cX8_thrown 0 = .ok (.aload_n 0, 1) := by decide +kernel
theorem dX8_thrown_1 : decode cX8_thrown 1 = .ok (.getfield 91, 3) := by decide +kernel
theorem dX8_thrown_4 : decode cX8_thrown 4 = .ok (.ireturn, 1) := by decide +kernel
theorem dX8_throwsIf_0 : decode cX8_throwsIf 0 = .ok (.aload_n 0, 1) := by decide +kernel
theorem dX8_throwsIf_1 : decode cX8_throwsIf 1 = .ok (.iload_n 1, 1) := by decide +kernel
theorem dX8_throwsIf_2 : decode cX8_throwsIf 2 = .ok (.ifCond .eq 7, 3) := by decide +kernel
theorem dX8_throwsIf_5 : decode cX8_throwsIf 5 = .ok (.iconst 1, 1) := by decide +kernel
theorem dX8_throwsIf_6 : decode cX8_throwsIf 6 = .ok (.goto 4, 3) := by decide +kernel
theorem dX8_throwsIf_9 : decode cX8_throwsIf 9 = .ok (.iconst 0, 1) := by decide +kernel
theorem dX8_throwsIf_10 : decode cX8_throwsIf 10 = .ok (.putfield 91, 3) := by decide +kernel
theorem dX8_throwsIf_13 : decode cX8_throwsIf 13 = .ok (.iload_n 1, 1) := by decide +kernel
theorem dX8_throwsIf_14 : decode cX8_throwsIf 14 = .ok (.ireturn, 1) := by decide +kernel
theorem dX8_feed_0 : decode cX8_feed 0 = .ok (.aload_n 0, 1) := by decide +kernel
theorem dX8_feed_1 : decode cX8_feed 1 = .ok (.iconst 0, 1) := by decide +kernel
theorem dX8_feed_2 : decode cX8_feed 2 = .ok (.putfield 91, 3) := by decide +kernel
theorem dX8_feed_5 : decode cX8_feed 5 = .ok (.aload_n 0, 1) := by decide +kernel
theorem dX8_feed_6 : decode cX8_feed 6 = .ok (.getfield 95, 3) := by decide +kernel
theorem dX8_feed_9 : decode cX8_feed 9 = .ok (.bipush 20, 2) := by decide +kernel
theorem dX8_feed_11 : decode cX8_feed 11 = .ok (.iadd, 1) := by decide +kernel
theorem dX8_feed_12 : decode cX8_feed 12 = .ok (.sipush 200, 3) := by decide +kernel
theorem dX8_feed_15 : decode cX8_feed 15 = .ok (.if_icmp .le 5, 3) := by decide +kernel
theorem dX8_feed_18 : decode cX8_feed 18 = .ok (.iconst (-1), 1) := by decide +kernel
theorem dX8_feed_19 : decode cX8_feed 19 = .ok (.ireturn, 1) := by decide +kernel
theorem dX8_feed_20 : decode cX8_feed 20 = .ok (.aload_n 0, 1) := by decide +kernel
theorem dX8_feed_21 : decode cX8_feed 21 = .ok (.iload_n 1, 1) := by decide +kernel
theorem dX8_feed_22 : decode cX8_feed 22 = .ok (.invokevirtual 98, 3) := by decide +kernel
theorem dX8_feed_25 : decode cX8_feed 25 = .ok (.aload_n 0, 1) := by decide +kernel
theorem dX8_feed_26 : decode cX8_feed 26 = .ok (.iload_n 2, 1) := by decide +kernel
theorem dX8_feed_27 : decode cX8_feed 27 = .ok (.invokevirtual 98, 3) := by decide +kernel
theorem dX8_feed_30 : decode cX8_feed 30 = .ok (.aload_n 0, 1) := by decide +kernel
theorem dX8_feed_31 : decode cX8_feed 31 = .ok (.iload_n 3, 1) := by decide +kernel
theorem dX8_feed_32 : decode cX8_feed 32 = .ok (.invokevirtual 98, 3) := by decide +kernel
theorem dX8_feed_35 : decode cX8_feed 35 = .ok (.aload_n 0, 1) := by decide +kernel
theorem dX8_feed_36 : decode cX8_feed 36 = .ok (.iload 4, 2) := by decide +kernel
theorem dX8_feed_38 : decode cX8_feed 38 = .ok (.invokevirtual 98, 3) := by decide +kernel
theorem dX8_feed_41 : decode cX8_feed 41 = .ok (.aload_n 0, 1) := by decide +kernel
theorem dX8_feed_42 : decode cX8_feed 42 = .ok (.iload 5, 2) := by decide +kernel
theorem dX8_feed_44 : decode cX8_feed 44 = .ok (.invokevirtual 98, 3) := by decide +kernel
theorem dX8_feed_47 : decode cX8_feed 47 = .ok (.aload_n 0, 1) := by decide +kernel
theorem dX8_feed_48 : decode cX8_feed 48 = .ok (.getfield 95, 3) := by decide +kernel
theorem dX8_feed_51 : decode cX8_feed 51 = .ok (.ireturn, 1) := by decide +kernel
theorem dX8_four_0 : decode cX8_four 0 = .ok (.bipush 24, 2) := by decide +kernel
theorem dX8_four_2 : decode cX8_four 2 = .ok (.istore_n 2, 1) := by decide +kernel
theorem dX8_four_3 : decode cX8_four 3 = .ok (.iload_n 2, 1) := by decide +kernel
theorem dX8_four_4 : decode cX8_four 4 = .ok (.ifCond .lt 32, 3) := by decide +kernel
theorem dX8_four_7 : decode cX8_four 7 = .ok (.aload_n 0, 1) := by decide +kernel
theorem dX8_four_8 : decode cX8_four 8 = .ok (.getfield 7, 3) := by decide +kernel
theorem dX8_four_11 : decode cX8_four 11 = .ok (.aload_n 0, 1) := by decide +kernel
theorem dX8_four_12 : decode cX8_four 12 = .ok (.getfield 95, 3) := by decide +kernel
theorem dX8_four_15 : decode cX8_four 15 = .ok (.iload_n 1, 1) := by decide +kernel
theorem dX8_four_16 : decode cX8_four 16 = .ok (.iload_n 2, 1) := by decide +kernel
theorem dX8_four_17 : decode cX8_four 17 = .ok (.ishr, 1) := by decide +kernel
theorem dX8_four_18 : decode cX8_four 18 = .ok (.i2b, 1) := by decide +kernel
theorem dX8_four_19 : decode cX8_four 19 = .ok (.bastore, 1) := by decide +kernel
theorem dX8_four_20 : decode cX8_four 20 = .ok (.aload_n 0, 1) := by decide +kernel
theorem dX8_four_21 : decode cX8_four 21 = .ok (.dup, 1) := by decide +kernel
theorem dX8_four_22 : decode cX8_four 22 = .ok (.getfield 95, 3) := by decide +kernel
theorem dX8_four_25 : decode cX8_four 25 = .ok (.iconst 1, 1) := by decide +kernel
theorem dX8_four_26 : decode cX8_four 26 = .ok (.iadd, 1) := by decide +kernel
theorem dX8_four_27 : decode cX8_four 27 = .ok (.putfield 95, 3) := by decide +kernel
theorem dX8_four_30 : decode cX8_four 30 = .ok (.iinc 2 (-8), 3) := by decide +kernel
theorem dX8_four_33 : decode cX8_four 33 = .ok (.goto (-30), 3) := by decide +kernel
theorem dX8_four_36 : decode cX8_four 36 = .ok (.return_, 1) := by decide +kernel
theorem dX8_end_0 : decode cX8_end 0 = .ok (.aload_n 0, 1) := by decide +kernel
theorem dX8_end_1 : decode cX8_end 1 = .ok (.iconst 0, 1) := by decide +kernel
theorem dX8_end_2 : decode cX8_end 2 = .ok (.putfield 91, 3) := by decide +kernel
theorem dX8_end_5 : decode cX8_end 5 = .ok (.iload_n 1, 1) := by decide +kernel
theorem dX8_end_6 : decode cX8_end 6 = .ok (.ifCond .lt 11, 3) := by decide +kernel
theorem dX8_end_9 : decode cX8_end 9 = .ok (.iload_n 1, 1) := by decide +kernel
theorem dX8_end_10 : decode cX8_end 10 = .ok (.aload_n 0, 1) := by decide +kernel
theorem dX8_end_11 : decode cX8_end 11 = .ok (.getfield 95, 3) := by decide +kernel
theorem dX8_end_14 : decode cX8_end 14 = .ok (.if_icmp .le 5, 3) := by decide +kernel
theorem dX8_end_17 : decode cX8_end 17 = .ok (.iconst 0, 1) := by decide +kernel
theorem dX8_end_18 : decode cX8_end 18 = .ok (.ireturn, 1) := by decide +kernel
theorem dX8_end_19 : decode cX8_end 19 = .ok (.aload_n 0, 1) := by decide +kernel
theorem dX8_end_20 : decode cX8_end 20 = .ok (.iload_n 1, 1) := by decide +kernel
theorem dX8_end_21 : decode cX8_end 21 = .ok (.putfield 95, 3) := by decide +kernel
theorem dX8_end_24 : decode cX8_end 24 = .ok (.iconst 1, 1) := by decide +kernel
theorem dX8_end_25 : decode cX8_end 25 = .ok (.ireturn, 1) := by decide +kernel
theorem dX8_taken_0 : decode cX8_taken 0 = .ok (.aload_n 0, 1) := by decide +kernel
theorem dX8_taken_1 : decode cX8_taken 1 = .ok (.getfield 95, 3) := by decide +kernel
theorem dX8_taken_4 : decode cX8_taken 4 = .ok (.istore_n 1, 1) := by decide +kernel
theorem dX8_taken_5 : decode cX8_taken 5 = .ok (.aload_n 0, 1) := by decide +kernel
theorem dX8_taken_6 : decode cX8_taken 6 = .ok (.iconst 0, 1) := by decide +kernel
theorem dX8_taken_7 : decode cX8_taken 7 = .ok (.putfield 95, 3) := by decide +kernel
theorem dX8_taken_10 : decode cX8_taken 10 = .ok (.iload_n 1, 1) := by decide +kernel
theorem dX8_taken_11 : decode cX8_taken 11 = .ok (.ireturn, 1) := by decide +kernel
theorem dX8_at_0 : decode cX8_at 0 = .ok (.aload_n 0, 1) := by decide +kernel
theorem dX8_at_1 : decode cX8_at 1 = .ok (.getfield 7, 3) := by decide +kernel
theorem dX8_at_4 : decode cX8_at 4 = .ok (.iload_n 1, 1) := by decide +kernel
theorem dX8_at_5 : decode cX8_at 5 = .ok (.baload, 1) := by decide +kernel
theorem dX8_at_6 : decode cX8_at 6 = .ok (.sipush 255, 3) := by decide +kernel
theorem dX8_at_9 : decode cX8_at 9 = .ok (.iand, 1) := by decide +kernel
theorem dX8_at_10 : decode cX8_at 10 = .ok (.ireturn, 1) := by decide +kernel
theorem dX8_isRoad_0 : decode cX8_isRoad 0 = .ok (.iload_n 1, 1) := by decide +kernel
theorem dX8_isRoad_1 : decode cX8_isRoad 1 = .ok (.ifCond .lt 22, 3) := by decide +kernel
theorem dX8_isRoad_4 : decode cX8_isRoad 4 = .ok (.iload_n 1, 1) := by decide +kernel
theorem dX8_isRoad_5 : decode cX8_isRoad 5 = .ok (.bipush 16, 2) := by decide +kernel
theorem dX8_isRoad_7 : decode cX8_isRoad 7 = .ok (.if_icmp .ge 16, 3) := by decide +kernel
theorem dX8_isRoad_10 : decode cX8_isRoad 10 = .ok (.aload_n 0, 1) := by decide +kernel
theorem dX8_isRoad_11 : decode cX8_isRoad 11 = .ok (.getfield 13, 3) := by decide +kernel
theorem dX8_isRoad_14 : decode cX8_isRoad 14 = .ok (.iload_n 1, 1) := by decide +kernel
theorem dX8_isRoad_15 : decode cX8_isRoad 15 = .ok (.baload, 1) := by decide +kernel
theorem dX8_isRoad_16 : decode cX8_isRoad 16 = .ok (.ifCond .eq 7, 3) := by decide +kernel
theorem dX8_isRoad_19 : decode cX8_isRoad 19 = .ok (.iconst 1, 1) := by decide +kernel
theorem dX8_isRoad_20 : decode cX8_isRoad 20 = .ok (.goto 4, 3) := by decide +kernel
theorem dX8_isRoad_23 : decode cX8_isRoad 23 = .ok (.iconst 0, 1) := by decide +kernel
theorem dX8_isRoad_24 : decode cX8_isRoad 24 = .ok (.ireturn, 1) := by decide +kernel
theorem dX8_isDay_0 : decode cX8_isDay 0 = .ok (.iload_n 0, 1) := by decide +kernel
theorem dX8_isDay_1 : decode cX8_isDay 1 = .ok (.ifCond .lt 13, 3) := by decide +kernel
theorem dX8_isDay_4 : decode cX8_isDay 4 = .ok (.iload_n 0, 1) := by decide +kernel
theorem dX8_isDay_5 : decode cX8_isDay 5 = .ok (.bipush 84, 2) := by decide +kernel
theorem dX8_isDay_7 : decode cX8_isDay 7 = .ok (.if_icmp .ge 7, 3) := by decide +kernel
theorem dX8_isDay_10 : decode cX8_isDay 10 = .ok (.iconst 1, 1) := by decide +kernel
theorem dX8_isDay_11 : decode cX8_isDay 11 = .ok (.goto 4, 3) := by decide +kernel
theorem dX8_isDay_14 : decode cX8_isDay 14 = .ok (.iconst 0, 1) := by decide +kernel
theorem dX8_isDay_15 : decode cX8_isDay 15 = .ok (.ireturn, 1) := by decide +kernel
theorem dX8_road_0 : decode cX8_road 0 = .ok (.aload_n 0, 1) := by decide +kernel
theorem dX8_road_1 : decode cX8_road 1 = .ok (.iconst 0, 1) := by decide +kernel
theorem dX8_road_2 : decode cX8_road 2 = .ok (.putfield 91, 3) := by decide +kernel
theorem dX8_road_5 : decode cX8_road 5 = .ok (.iload_n 1, 1) := by decide +kernel
theorem dX8_road_6 : decode cX8_road 6 = .ok (.ifCond .lt 55, 3) := by decide +kernel
theorem dX8_road_9 : decode cX8_road 9 = .ok (.iload_n 1, 1) := by decide +kernel
theorem dX8_road_10 : decode cX8_road 10 = .ok (.bipush 16, 2) := by decide +kernel
theorem dX8_road_12 : decode cX8_road 12 = .ok (.if_icmp .ge 49, 3) := by decide +kernel
theorem dX8_road_15 : decode cX8_road 15 = .ok (.aload_n 0, 1) := by decide +kernel
theorem dX8_road_16 : decode cX8_road 16 = .ok (.getfield 13, 3) := by decide +kernel
theorem dX8_road_19 : decode cX8_road 19 = .ok (.iload_n 1, 1) := by decide +kernel
theorem dX8_road_20 : decode cX8_road 20 = .ok (.baload, 1) := by decide +kernel
theorem dX8_road_21 : decode cX8_road 21 = .ok (.ifCond .ne 40, 3) := by decide +kernel
theorem dX8_road_24 : decode cX8_road 24 = .ok (.iload_n 2, 1) := by decide +kernel
theorem dX8_road_25 : decode cX8_road 25 = .ok (.ifCond .lt 36, 3) := by decide +kernel
theorem dX8_road_28 : decode cX8_road 28 = .ok (.iload_n 2, 1) := by decide +kernel
theorem dX8_road_29 : decode cX8_road 29 = .ok (.bipush 8, 2) := by decide +kernel
theorem dX8_road_31 : decode cX8_road 31 = .ok (.if_icmp .ge 30, 3) := by decide +kernel
theorem dX8_road_34 : decode cX8_road 34 = .ok (.iload_n 3, 1) := by decide +kernel
theorem dX8_road_35 : decode cX8_road 35 = .ok (.ifCond .lt 26, 3) := by decide +kernel
theorem dX8_road_38 : decode cX8_road 38 = .ok (.iload_n 3, 1) := by decide +kernel
theorem dX8_road_39 : decode cX8_road 39 = .ok (.bipush 8, 2) := by decide +kernel
theorem dX8_road_41 : decode cX8_road 41 = .ok (.if_icmp .ge 20, 3) := by decide +kernel
theorem dX8_road_44 : decode cX8_road 44 = .ok (.iload_n 2, 1) := by decide +kernel
theorem dX8_road_45 : decode cX8_road 45 = .ok (.iload_n 3, 1) := by decide +kernel
theorem dX8_road_46 : decode cX8_road 46 = .ok (.if_icmp .eq 15, 3) := by decide +kernel
theorem dX8_road_49 : decode cX8_road 49 = .ok (.iload 4, 2) := by decide +kernel
theorem dX8_road_51 : decode cX8_road 51 = .ok (.iconst (-1), 1) := by decide +kernel
theorem dX8_road_52 : decode cX8_road 52 = .ok (.if_icmp .lt 9, 3) := by decide +kernel
theorem dX8_road_55 : decode cX8_road 55 = .ok (.iload 4, 2) := by decide +kernel
theorem dX8_road_57 : decode cX8_road 57 = .ok (.iconst 4, 1) := by decide +kernel
theorem dX8_road_58 : decode cX8_road 58 = .ok (.if_icmp .lt 5, 3) := by decide +kernel
theorem dX8_road_61 : decode cX8_road 61 = .ok (.iconst 0, 1) := by decide +kernel
theorem dX8_road_62 : decode cX8_road 62 = .ok (.ireturn, 1) := by decide +kernel
theorem dX8_road_63 : decode cX8_road 63 = .ok (.aload_n 0, 1) := by decide +kernel
theorem dX8_road_64 : decode cX8_road 64 = .ok (.getfield 13, 3) := by decide +kernel
theorem dX8_road_67 : decode cX8_road 67 = .ok (.iload_n 1, 1) := by decide +kernel
theorem dX8_road_68 : decode cX8_road 68 = .ok (.iconst 1, 1) := by decide +kernel
theorem dX8_road_69 : decode cX8_road 69 = .ok (.bastore, 1) := by decide +kernel
theorem dX8_road_70 : decode cX8_road 70 = .ok (.aload_n 0, 1) := by decide +kernel
theorem dX8_road_71 : decode cX8_road 71 = .ok (.getfield 20, 3) := by decide +kernel
theorem dX8_road_74 : decode cX8_road 74 = .ok (.iload_n 1, 1) := by decide +kernel
theorem dX8_road_75 : decode cX8_road 75 = .ok (.iload_n 2, 1) := by decide +kernel
theorem dX8_road_76 : decode cX8_road 76 = .ok (.iastore, 1) := by decide +kernel
theorem dX8_road_77 : decode cX8_road 77 = .ok (.aload_n 0, 1) := by decide +kernel
theorem dX8_road_78 : decode cX8_road 78 = .ok (.getfield 24, 3) := by decide +kernel
theorem dX8_road_81 : decode cX8_road 81 = .ok (.iload_n 1, 1) := by decide +kernel
theorem dX8_road_82 : decode cX8_road 82 = .ok (.iload_n 3, 1) := by decide +kernel
theorem dX8_road_83 : decode cX8_road 83 = .ok (.iastore, 1) := by decide +kernel
theorem dX8_road_84 : decode cX8_road 84 = .ok (.aload_n 0, 1) := by decide +kernel
theorem dX8_road_85 : decode cX8_road 85 = .ok (.getfield 27, 3) := by decide +kernel
theorem dX8_road_88 : decode cX8_road 88 = .ok (.iload_n 1, 1) := by decide +kernel
theorem dX8_road_89 : decode cX8_road 89 = .ok (.iload 4, 2) := by decide +kernel
theorem dX8_road_91 : decode cX8_road 91 = .ok (.iastore, 1) := by decide +kernel
theorem dX8_road_92 : decode cX8_road 92 = .ok (.iconst 1, 1) := by decide +kernel
theorem dX8_road_93 : decode cX8_road 93 = .ok (.ireturn, 1) := by decide +kernel
theorem dX8_enter_0 : decode cX8_enter 0 = .ok (.aload_n 0, 1) := by decide +kernel
theorem dX8_enter_1 : decode cX8_enter 1 = .ok (.getfield 30, 3) := by decide +kernel
theorem dX8_enter_4 : decode cX8_enter 4 = .ok (.aload_n 0, 1) := by decide +kernel
theorem dX8_enter_5 : decode cX8_enter 5 = .ok (.getfield 102, 3) := by decide +kernel
theorem dX8_enter_8 : decode cX8_enter 8 = .ok (.iload_n 1, 1) := by decide +kernel
theorem dX8_enter_9 : decode cX8_enter 9 = .ok (.iastore, 1) := by decide +kernel
theorem dX8_enter_10 : decode cX8_enter 10 = .ok (.aload_n 0, 1) := by decide +kernel
theorem dX8_enter_11 : decode cX8_enter 11 = .ok (.getfield 33, 3) := by decide +kernel
theorem dX8_enter_14 : decode cX8_enter 14 = .ok (.aload_n 0, 1) := by decide +kernel
theorem dX8_enter_15 : decode cX8_enter 15 = .ok (.getfield 102, 3) := by decide +kernel
theorem dX8_enter_18 : decode cX8_enter 18 = .ok (.iload_n 2, 1) := by decide +kernel
theorem dX8_enter_19 : decode cX8_enter 19 = .ok (.iastore, 1) := by decide +kernel
theorem dX8_enter_20 : decode cX8_enter 20 = .ok (.aload_n 0, 1) := by decide +kernel
theorem dX8_enter_21 : decode cX8_enter 21 = .ok (.getfield 36, 3) := by decide +kernel
theorem dX8_enter_24 : decode cX8_enter 24 = .ok (.aload_n 0, 1) := by decide +kernel
theorem dX8_enter_25 : decode cX8_enter 25 = .ok (.getfield 102, 3) := by decide +kernel
theorem dX8_enter_28 : decode cX8_enter 28 = .ok (.aload_n 0, 1) := by decide +kernel
theorem dX8_enter_29 : decode cX8_enter 29 = .ok (.getfield 105, 3) := by decide +kernel
theorem dX8_enter_32 : decode cX8_enter 32 = .ok (.iastore, 1) := by decide +kernel
theorem dX8_enter_33 : decode cX8_enter 33 = .ok (.aload_n 0, 1) := by decide +kernel
theorem dX8_enter_34 : decode cX8_enter 34 = .ok (.getfield 39, 3) := by decide +kernel
theorem dX8_enter_37 : decode cX8_enter 37 = .ok (.aload_n 0, 1) := by decide +kernel
theorem dX8_enter_38 : decode cX8_enter 38 = .ok (.getfield 102, 3) := by decide +kernel
theorem dX8_enter_41 : decode cX8_enter 41 = .ok (.iload_n 3, 1) := by decide +kernel
theorem dX8_enter_42 : decode cX8_enter 42 = .ok (.iastore, 1) := by decide +kernel
theorem dX8_enter_43 : decode cX8_enter 43 = .ok (.aload_n 0, 1) := by decide +kernel
theorem dX8_enter_44 : decode cX8_enter 44 = .ok (.getfield 42, 3) := by decide +kernel
theorem dX8_enter_47 : decode cX8_enter 47 = .ok (.iconst 3, 1) := by decide +kernel
theorem dX8_enter_48 : decode cX8_enter 48 = .ok (.aload_n 0, 1) := by decide +kernel
theorem dX8_enter_49 : decode cX8_enter 49 = .ok (.getfield 102, 3) := by decide +kernel
theorem dX8_enter_52 : decode cX8_enter 52 = .ok (.imul, 1) := by decide +kernel
theorem dX8_enter_53 : decode cX8_enter 53 = .ok (.iload 4, 2) := by decide +kernel
theorem dX8_enter_55 : decode cX8_enter 55 = .ok (.iastore, 1) := by decide +kernel
theorem dX8_enter_56 : decode cX8_enter 56 = .ok (.aload_n 0, 1) := by decide +kernel
theorem dX8_enter_57 : decode cX8_enter 57 = .ok (.getfield 42, 3) := by decide +kernel
theorem dX8_enter_60 : decode cX8_enter 60 = .ok (.iconst 3, 1) := by decide +kernel
theorem dX8_enter_61 : decode cX8_enter 61 = .ok (.aload_n 0, 1) := by decide +kernel
theorem dX8_enter_62 : decode cX8_enter 62 = .ok (.getfield 102, 3) := by decide +kernel
theorem dX8_enter_65 : decode cX8_enter 65 = .ok (.imul, 1) := by decide +kernel
theorem dX8_enter_66 : decode cX8_enter 66 = .ok (.iconst 1, 1) := by decide +kernel
theorem dX8_enter_67 : decode cX8_enter 67 = .ok (.iadd, 1) := by decide +kernel
theorem dX8_enter_68 : decode cX8_enter 68 = .ok (.iload 5, 2) := by decide +kernel
theorem dX8_enter_70 : decode cX8_enter 70 = .ok (.iastore, 1) := by decide +kernel
theorem dX8_enter_71 : decode cX8_enter 71 = .ok (.aload_n 0, 1) := by decide +kernel
theorem dX8_enter_72 : decode cX8_enter 72 = .ok (.getfield 42, 3) := by decide +kernel
theorem dX8_enter_75 : decode cX8_enter 75 = .ok (.iconst 3, 1) := by decide +kernel
theorem dX8_enter_76 : decode cX8_enter 76 = .ok (.aload_n 0, 1) := by decide +kernel
theorem dX8_enter_77 : decode cX8_enter 77 = .ok (.getfield 102, 3) := by decide +kernel
theorem dX8_enter_80 : decode cX8_enter 80 = .ok (.imul, 1) := by decide +kernel
theorem dX8_enter_81 : decode cX8_enter 81 = .ok (.iconst 2, 1) := by decide +kernel
theorem dX8_enter_82 : decode cX8_enter 82 = .ok (.iadd, 1) := by decide +kernel
theorem dX8_enter_83 : decode cX8_enter 83 = .ok (.iload 6, 2) := by decide +kernel
theorem dX8_enter_85 : decode cX8_enter 85 = .ok (.iastore, 1) := by decide +kernel
theorem dX8_enter_86 : decode cX8_enter 86 = .ok (.aload_n 0, 1) := by decide +kernel
theorem dX8_enter_87 : decode cX8_enter 87 = .ok (.dup, 1) := by decide +kernel
theorem dX8_enter_88 : decode cX8_enter 88 = .ok (.getfield 102, 3) := by decide +kernel
theorem dX8_enter_91 : decode cX8_enter 91 = .ok (.iconst 1, 1) := by decide +kernel
theorem dX8_enter_92 : decode cX8_enter 92 = .ok (.iadd, 1) := by decide +kernel
theorem dX8_enter_93 : decode cX8_enter 93 = .ok (.putfield 102, 3) := by decide +kernel
theorem dX8_enter_96 : decode cX8_enter 96 = .ok (.return_, 1) := by decide +kernel
theorem dX8_count_0 : decode cX8_count 0 = .ok (.aload_n 0, 1) := by decide +kernel
theorem dX8_count_1 : decode cX8_count 1 = .ok (.iconst 0, 1) := by decide +kernel
theorem dX8_count_2 : decode cX8_count 2 = .ok (.putfield 91, 3) := by decide +kernel
theorem dX8_count_5 : decode cX8_count 5 = .ok (.aload_n 0, 1) := by decide +kernel
theorem dX8_count_6 : decode cX8_count 6 = .ok (.invokevirtual 108, 3) := by decide +kernel
theorem dX8_count_9 : decode cX8_count 9 = .ok (.istore_n 3, 1) := by decide +kernel
theorem dX8_count_10 : decode cX8_count 10 = .ok (.aload_n 0, 1) := by decide +kernel
theorem dX8_count_11 : decode cX8_count 11 = .ok (.iload_n 1, 1) := by decide +kernel
theorem dX8_count_12 : decode cX8_count 12 = .ok (.invokevirtual 112, 3) := by decide +kernel
theorem dX8_count_15 : decode cX8_count 15 = .ok (.ifCond .eq 26, 3) := by decide +kernel
theorem dX8_count_18 : decode cX8_count 18 = .ok (.iload_n 2, 1) := by decide +kernel
theorem dX8_count_19 : decode cX8_count 19 = .ok (.invokestatic 116, 3) := by decide +kernel
theorem dX8_count_22 : decode cX8_count 22 = .ok (.ifCond .eq 19, 3) := by decide +kernel
theorem dX8_count_25 : decode cX8_count 25 = .ok (.iload_n 3, 1) := by decide +kernel
theorem dX8_count_26 : decode cX8_count 26 = .ok (.bipush 7, 2) := by decide +kernel
theorem dX8_count_28 : decode cX8_count 28 = .ok (.if_icmp .ne 13, 3) := by decide +kernel
theorem dX8_count_31 : decode cX8_count 31 = .ok (.aload_n 0, 1) := by decide +kernel
theorem dX8_count_32 : decode cX8_count 32 = .ok (.getfield 102, 3) := by decide +kernel
theorem dX8_count_35 : decode cX8_count 35 = .ok (.sipush 600, 3) := by decide +kernel
theorem dX8_count_38 : decode cX8_count 38 = .ok (.if_icmp .ne 5, 3) := by decide +kernel
theorem dX8_count_41 : decode cX8_count 41 = .ok (.iconst (-1), 1) := by decide +kernel
theorem dX8_count_42 : decode cX8_count 42 = .ok (.ireturn, 1) := by decide +kernel
theorem dX8_count_43 : decode cX8_count 43 = .ok (.aload_n 0, 1) := by decide +kernel
theorem dX8_count_44 : decode cX8_count 44 = .ok (.iconst 0, 1) := by decide +kernel
theorem dX8_count_45 : decode cX8_count 45 = .ok (.invokevirtual 119, 3) := by decide +kernel
theorem dX8_count_48 : decode cX8_count 48 = .ok (.aload_n 0, 1) := by decide +kernel
theorem dX8_count_49 : decode cX8_count 49 = .ok (.iconst 1, 1) := by decide +kernel
theorem dX8_count_50 : decode cX8_count 50 = .ok (.invokevirtual 119, 3) := by decide +kernel
theorem dX8_count_53 : decode cX8_count 53 = .ok (.iadd, 1) := by decide +kernel
theorem dX8_count_54 : decode cX8_count 54 = .ok (.aload_n 0, 1) := by decide +kernel
theorem dX8_count_55 : decode cX8_count 55 = .ok (.iconst 2, 1) := by decide +kernel
theorem dX8_count_56 : decode cX8_count 56 = .ok (.invokevirtual 119, 3) := by decide +kernel
theorem dX8_count_59 : decode cX8_count 59 = .ok (.iadd, 1) := by decide +kernel
theorem dX8_count_60 : decode cX8_count 60 = .ok (.aload_n 0, 1) := by decide +kernel
theorem dX8_count_61 : decode cX8_count 61 = .ok (.iconst 3, 1) := by decide +kernel
theorem dX8_count_62 : decode cX8_count 62 = .ok (.invokevirtual 119, 3) := by decide +kernel
theorem dX8_count_65 : decode cX8_count 65 = .ok (.iadd, 1) := by decide +kernel
theorem dX8_count_66 : decode cX8_count 66 = .ok (.aload_n 0, 1) := by decide +kernel
theorem dX8_count_67 : decode cX8_count 67 = .ok (.iconst 4, 1) := by decide +kernel
theorem dX8_count_68 : decode cX8_count 68 = .ok (.invokevirtual 119, 3) := by decide +kernel
theorem dX8_count_71 : decode cX8_count 71 = .ok (.iadd, 1) := by decide +kernel
theorem dX8_count_72 : decode cX8_count 72 = .ok (.aload_n 0, 1) := by decide +kernel
theorem dX8_count_73 : decode cX8_count 73 = .ok (.iconst 5, 1) := by decide +kernel
theorem dX8_count_74 : decode cX8_count 74 = .ok (.invokevirtual 119, 3) := by decide +kernel
theorem dX8_count_77 : decode cX8_count 77 = .ok (.iadd, 1) := by decide +kernel
theorem dX8_count_78 : decode cX8_count 78 = .ok (.aload_n 0, 1) := by decide +kernel
theorem dX8_count_79 : decode cX8_count 79 = .ok (.bipush 6, 2) := by decide +kernel
theorem dX8_count_81 : decode cX8_count 81 = .ok (.invokevirtual 119, 3) := by decide +kernel
theorem dX8_count_84 : decode cX8_count 84 = .ok (.isub, 1) := by decide +kernel
theorem dX8_count_85 : decode cX8_count 85 = .ok (.istore 4, 2) := by decide +kernel
theorem dX8_count_87 : decode cX8_count 87 = .ok (.iload 4, 2) := by decide +kernel
theorem dX8_count_89 : decode cX8_count 89 = .ok (.ifCond .lt 10, 3) := by decide +kernel
theorem dX8_count_92 : decode cX8_count 92 = .ok (.iload 4, 2) := by decide +kernel
theorem dX8_count_94 : decode cX8_count 94 = .ok (.bipush 50, 2) := by decide +kernel
theorem dX8_count_96 : decode cX8_count 96 = .ok (.if_icmp .le 5, 3) := by decide +kernel
theorem dX8_count_99 : decode cX8_count 99 = .ok (.iconst (-1), 1) := by decide +kernel
theorem dX8_count_100 : decode cX8_count 100 = .ok (.ireturn, 1) := by decide +kernel
theorem dX8_count_101 : decode cX8_count 101 = .ok (.aload_n 0, 1) := by decide +kernel
theorem dX8_count_102 : decode cX8_count 102 = .ok (.iload_n 1, 1) := by decide +kernel
theorem dX8_count_103 : decode cX8_count 103 = .ok (.iload_n 2, 1) := by decide +kernel
theorem dX8_count_104 : decode cX8_count 104 = .ok (.iload 4, 2) := by decide +kernel
theorem dX8_count_106 : decode cX8_count 106 = .ok (.aload_n 0, 1) := by decide +kernel
theorem dX8_count_107 : decode cX8_count 107 = .ok (.iconst 0, 1) := by decide +kernel
theorem dX8_count_108 : decode cX8_count 108 = .ok (.invokevirtual 119, 3) := by decide +kernel
theorem dX8_count_111 : decode cX8_count 111 = .ok (.aload_n 0, 1) := by decide +kernel
theorem dX8_count_112 : decode cX8_count 112 = .ok (.iconst 3, 1) := by decide +kernel
theorem dX8_count_113 : decode cX8_count 113 = .ok (.invokevirtual 119, 3) := by decide +kernel
theorem dX8_count_116 : decode cX8_count 116 = .ok (.iadd, 1) := by decide +kernel
theorem dX8_count_117 : decode cX8_count 117 = .ok (.aload_n 0, 1) := by decide +kernel
theorem dX8_count_118 : decode cX8_count 118 = .ok (.iconst 1, 1) := by decide +kernel
theorem dX8_count_119 : decode cX8_count 119 = .ok (.invokevirtual 119, 3) := by decide +kernel
theorem dX8_count_122 : decode cX8_count 122 = .ok (.aload_n 0, 1) := by decide +kernel
theorem dX8_count_123 : decode cX8_count 123 = .ok (.iconst 4, 1) := by decide +kernel
theorem dX8_count_124 : decode cX8_count 124 = .ok (.invokevirtual 119, 3) := by decide +kernel
theorem dX8_count_127 : decode cX8_count 127 = .ok (.iadd, 1) := by decide +kernel
theorem dX8_count_128 : decode cX8_count 128 = .ok (.aload_n 0, 1) := by decide +kernel
theorem dX8_count_129 : decode cX8_count 129 = .ok (.iconst 2, 1) := by decide +kernel
theorem dX8_count_130 : decode cX8_count 130 = .ok (.invokevirtual 119, 3) := by decide +kernel
theorem dX8_count_133 : decode cX8_count 133 = .ok (.aload_n 0, 1) := by decide +kernel
theorem dX8_count_134 : decode cX8_count 134 = .ok (.iconst 5, 1) := by decide +kernel
theorem dX8_count_135 : decode cX8_count 135 = .ok (.invokevirtual 119, 3) := by decide +kernel
theorem dX8_count_138 : decode cX8_count 138 = .ok (.iadd, 1) := by decide +kernel
theorem dX8_count_139 : decode cX8_count 139 = .ok (.invokevirtual 123, 3) := by decide +kernel
theorem dX8_count_142 : decode cX8_count 142 = .ok (.iload 4, 2) := by decide +kernel
theorem dX8_count_144 : decode cX8_count 144 = .ok (.ireturn, 1) := by decide +kernel
theorem dX8_counts_0 : decode cX8_counts 0 = .ok (.aload_n 0, 1) := by decide +kernel
theorem dX8_counts_1 : decode cX8_counts 1 = .ok (.iconst 0, 1) := by decide +kernel
theorem dX8_counts_2 : decode cX8_counts 2 = .ok (.putfield 91, 3) := by decide +kernel
theorem dX8_counts_5 : decode cX8_counts 5 = .ok (.aload_n 0, 1) := by decide +kernel
theorem dX8_counts_6 : decode cX8_counts 6 = .ok (.invokevirtual 108, 3) := by decide +kernel
theorem dX8_counts_9 : decode cX8_counts 9 = .ok (.istore_n 3, 1) := by decide +kernel
theorem dX8_counts_10 : decode cX8_counts 10 = .ok (.aload_n 0, 1) := by decide +kernel
theorem dX8_counts_11 : decode cX8_counts 11 = .ok (.iload_n 1, 1) := by decide +kernel
theorem dX8_counts_12 : decode cX8_counts 12 = .ok (.invokevirtual 112, 3) := by decide +kernel
theorem dX8_counts_15 : decode cX8_counts 15 = .ok (.ifCond .eq 27, 3) := by decide +kernel
theorem dX8_counts_18 : decode cX8_counts 18 = .ok (.iload_n 2, 1) := by decide +kernel
theorem dX8_counts_19 : decode cX8_counts 19 = .ok (.ifCond .lt 23, 3) := by decide +kernel
theorem dX8_counts_22 : decode cX8_counts 22 = .ok (.iload_n 2, 1) := by decide +kernel
theorem dX8_counts_23 : decode cX8_counts 23 = .ok (.bipush 84, 2) := by decide +kernel
theorem dX8_counts_25 : decode cX8_counts 25 = .ok (.iload_n 3, 1) := by decide +kernel
theorem dX8_counts_26 : decode cX8_counts 26 = .ok (.isub, 1) := by decide +kernel
theorem dX8_counts_27 : decode cX8_counts 27 = .ok (.if_icmp .gt 15, 3) := by decide +kernel
theorem dX8_counts_30 : decode cX8_counts 30 = .ok (.aload_n 0, 1) := by decide +kernel
theorem dX8_counts_31 : decode cX8_counts 31 = .ok (.getfield 102, 3) := by decide +kernel
theorem dX8_counts_34 : decode cX8_counts 34 = .ok (.iload_n 3, 1) := by decide +kernel
theorem dX8_counts_35 : decode cX8_counts 35 = .ok (.iadd, 1) := by decide +kernel
theorem dX8_counts_36 : decode cX8_counts 36 = .ok (.sipush 600, 3) := by decide +kernel
theorem dX8_counts_39 : decode cX8_counts 39 = .ok (.if_icmp .le 5, 3) := by decide +kernel
theorem dX8_counts_42 : decode cX8_counts 42 = .ok (.iconst (-1), 1) := by decide +kernel
theorem dX8_counts_43 : decode cX8_counts 43 = .ok (.ireturn, 1) := by decide +kernel
theorem dX8_counts_44 : decode cX8_counts 44 = .ok (.iconst 0, 1) := by decide +kernel
theorem dX8_counts_45 : decode cX8_counts 45 = .ok (.istore 4, 2) := by decide +kernel
theorem dX8_counts_47 : decode cX8_counts 47 = .ok (.iload 4, 2) := by decide +kernel
theorem dX8_counts_49 : decode cX8_counts 49 = .ok (.iload_n 3, 1) := by decide +kernel
theorem dX8_counts_50 : decode cX8_counts 50 = .ok (.if_icmp .ge 34, 3) := by decide +kernel
theorem dX8_counts_53 : decode cX8_counts 53 = .ok (.aload_n 0, 1) := by decide +kernel
theorem dX8_counts_54 : decode cX8_counts 54 = .ok (.iload 4, 2) := by decide +kernel
theorem dX8_counts_56 : decode cX8_counts 56 = .ok (.invokevirtual 119, 3) := by decide +kernel
theorem dX8_counts_59 : decode cX8_counts 59 = .ok (.sipush 255, 3) := by decide +kernel
theorem dX8_counts_62 : decode cX8_counts 62 = .ok (.if_icmp .eq 16, 3) := by decide +kernel
theorem dX8_counts_65 : decode cX8_counts 65 = .ok (.aload_n 0, 1) := by decide +kernel
theorem dX8_counts_66 : decode cX8_counts 66 = .ok (.iload 4, 2) := by decide +kernel
theorem dX8_counts_68 : decode cX8_counts 68 = .ok (.invokevirtual 119, 3) := by decide +kernel
theorem dX8_counts_71 : decode cX8_counts 71 = .ok (.bipush 50, 2) := by decide +kernel
theorem dX8_counts_73 : decode cX8_counts 73 = .ok (.if_icmp .le 5, 3) := by decide +kernel
theorem dX8_counts_76 : decode cX8_counts 76 = .ok (.iconst (-1), 1) := by decide +kernel
theorem dX8_counts_77 : decode cX8_counts 77 = .ok (.ireturn, 1) := by decide +kernel
theorem dX8_counts_78 : decode cX8_counts 78 = .ok (.iinc 4 1, 3) := by decide +kernel
theorem dX8_counts_81 : decode cX8_counts 81 = .ok (.goto (-34), 3) := by decide +kernel
theorem dX8_counts_84 : decode cX8_counts 84 = .ok (.iconst 0, 1) := by decide +kernel
theorem dX8_counts_85 : decode cX8_counts 85 = .ok (.istore 4, 2) := by decide +kernel
theorem dX8_counts_87 : decode cX8_counts 87 = .ok (.iload 4, 2) := by decide +kernel
theorem dX8_counts_89 : decode cX8_counts 89 = .ok (.iload_n 3, 1) := by decide +kernel
theorem dX8_counts_90 : decode cX8_counts 90 = .ok (.if_icmp .ge 48, 3) := by decide +kernel
theorem dX8_counts_93 : decode cX8_counts 93 = .ok (.aload_n 0, 1) := by decide +kernel
theorem dX8_counts_94 : decode cX8_counts 94 = .ok (.iload_n 1, 1) := by decide +kernel
theorem dX8_counts_95 : decode cX8_counts 95 = .ok (.iload_n 2, 1) := by decide +kernel
theorem dX8_counts_96 : decode cX8_counts 96 = .ok (.iload 4, 2) := by decide +kernel
theorem dX8_counts_98 : decode cX8_counts 98 = .ok (.iadd, 1) := by decide +kernel
theorem dX8_counts_99 : decode cX8_counts 99 = .ok (.aload_n 0, 1) := by decide +kernel
theorem dX8_counts_100 : decode cX8_counts 100 = .ok (.iload 4, 2) := by decide +kernel
theorem dX8_counts_102 : decode cX8_counts 102 = .ok (.invokevirtual 119, 3) := by decide +kernel
theorem dX8_counts_105 : decode cX8_counts 105 = .ok (.sipush 255, 3) := by decide +kernel
theorem dX8_counts_108 : decode cX8_counts 108 = .ok (.if_icmp .ne 7, 3) := by decide +kernel
theorem dX8_counts_111 : decode cX8_counts 111 = .ok (.iconst (-1), 1) := by decide +kernel
theorem dX8_counts_112 : decode cX8_counts 112 = .ok (.goto 9, 3) := by decide +kernel
theorem dX8_counts_115 : decode cX8_counts 115 = .ok (.aload_n 0, 1) := by decide +kernel
theorem dX8_counts_116 : decode cX8_counts 116 = .ok (.iload 4, 2) := by decide +kernel
theorem dX8_counts_118 : decode cX8_counts 118 = .ok (.invokevirtual 119, 3) := by decide +kernel
theorem dX8_counts_121 : decode cX8_counts 121 = .ok (.aload_n 0, 1) := by decide +kernel
theorem dX8_counts_122 : decode cX8_counts 122 = .ok (.iload 4, 2) := by decide +kernel
theorem dX8_counts_124 : decode cX8_counts 124 = .ok (.invokevirtual 119, 3) := by decide +kernel
theorem dX8_counts_127 : decode cX8_counts 127 = .ok (.iconst 0, 1) := by decide +kernel
theorem dX8_counts_128 : decode cX8_counts 128 = .ok (.iconst 0, 1) := by decide +kernel
theorem dX8_counts_129 : decode cX8_counts 129 = .ok (.invokevirtual 123, 3) := by decide +kernel
theorem dX8_counts_132 : decode cX8_counts 132 = .ok (.iinc 4 1, 3) := by decide +kernel
theorem dX8_counts_135 : decode cX8_counts 135 = .ok (.goto (-48), 3) := by decide +kernel
theorem dX8_counts_138 : decode cX8_counts 138 = .ok (.iload_n 3, 1) := by decide +kernel
theorem dX8_counts_139 : decode cX8_counts 139 = .ok (.ireturn, 1) := by decide +kernel
theorem dX8_later_0 : decode cX8_later 0 = .ok (.aload_n 0, 1) := by decide +kernel
theorem dX8_later_1 : decode cX8_later 1 = .ok (.iconst 0, 1) := by decide +kernel
theorem dX8_later_2 : decode cX8_later 2 = .ok (.putfield 91, 3) := by decide +kernel
theorem dX8_later_5 : decode cX8_later 5 = .ok (.aload_n 0, 1) := by decide +kernel
theorem dX8_later_6 : decode cX8_later 6 = .ok (.getfield 105, 3) := by decide +kernel
theorem dX8_later_9 : decode cX8_later 9 = .ok (.bipush 99, 2) := by decide +kernel
theorem dX8_later_11 : decode cX8_later 11 = .ok (.if_icmp .ne 5, 3) := by decide +kernel
theorem dX8_later_14 : decode cX8_later 14 = .ok (.iconst (-1), 1) := by decide +kernel
theorem dX8_later_15 : decode cX8_later 15 = .ok (.ireturn, 1) := by decide +kernel
theorem dX8_later_16 : decode cX8_later 16 = .ok (.aload_n 0, 1) := by decide +kernel
theorem dX8_later_17 : decode cX8_later 17 = .ok (.dup, 1) := by decide +kernel
theorem dX8_later_18 : decode cX8_later 18 = .ok (.getfield 105, 3) := by decide +kernel
theorem dX8_later_21 : decode cX8_later 21 = .ok (.iconst 1, 1) := by decide +kernel
theorem dX8_later_22 : decode cX8_later 22 = .ok (.iadd, 1) := by decide +kernel
theorem dX8_later_23 : decode cX8_later 23 = .ok (.putfield 105, 3) := by decide +kernel
theorem dX8_later_26 : decode cX8_later 26 = .ok (.aload_n 0, 1) := by decide +kernel
theorem dX8_later_27 : decode cX8_later 27 = .ok (.getfield 105, 3) := by decide +kernel
theorem dX8_later_30 : decode cX8_later 30 = .ok (.ireturn, 1) := by decide +kernel
theorem dX8_works_0 : decode cX8_works 0 = .ok (.aload_n 0, 1) := by decide +kernel
theorem dX8_works_1 : decode cX8_works 1 = .ok (.iconst 0, 1) := by decide +kernel
theorem dX8_works_2 : decode cX8_works 2 = .ok (.putfield 91, 3) := by decide +kernel
theorem dX8_works_5 : decode cX8_works 5 = .ok (.aload_n 0, 1) := by decide +kernel
theorem dX8_works_6 : decode cX8_works 6 = .ok (.iload_n 1, 1) := by decide +kernel
theorem dX8_works_7 : decode cX8_works 7 = .ok (.invokevirtual 112, 3) := by decide +kernel
theorem dX8_works_10 : decode cX8_works 10 = .ok (.ifCond .eq 18, 3) := by decide +kernel
theorem dX8_works_13 : decode cX8_works 13 = .ok (.iload_n 2, 1) := by decide +kernel
theorem dX8_works_14 : decode cX8_works 14 = .ok (.ifCond .lt 14, 3) := by decide +kernel
theorem dX8_works_17 : decode cX8_works 17 = .ok (.iload_n 2, 1) := by decide +kernel
theorem dX8_works_18 : decode cX8_works 18 = .ok (.iload_n 3, 1) := by decide +kernel
theorem dX8_works_19 : decode cX8_works 19 = .ok (.if_icmp .gt 9, 3) := by decide +kernel
theorem dX8_works_22 : decode cX8_works 22 = .ok (.iload_n 3, 1) := by decide +kernel
theorem dX8_works_23 : decode cX8_works 23 = .ok (.bipush 84, 2) := by decide +kernel
theorem dX8_works_25 : decode cX8_works 25 = .ok (.if_icmp .le 5, 3) := by decide +kernel
theorem dX8_works_28 : decode cX8_works 28 = .ok (.iconst (-1), 1) := by decide +kernel
theorem dX8_works_29 : decode cX8_works 29 = .ok (.ireturn, 1) := by decide +kernel
theorem dX8_works_30 : decode cX8_works 30 = .ok (.iconst 0, 1) := by decide +kernel
theorem dX8_works_31 : decode cX8_works 31 = .ok (.istore 5, 2) := by decide +kernel
theorem dX8_works_33 : decode cX8_works 33 = .ok (.iload_n 2, 1) := by decide +kernel
theorem dX8_works_34 : decode cX8_works 34 = .ok (.istore 6, 2) := by decide +kernel
theorem dX8_works_36 : decode cX8_works 36 = .ok (.iload 6, 2) := by decide +kernel
theorem dX8_works_38 : decode cX8_works 38 = .ok (.iload_n 3, 1) := by decide +kernel
theorem dX8_works_39 : decode cX8_works 39 = .ok (.if_icmp .ge 50, 3) := by decide +kernel
theorem dX8_works_42 : decode cX8_works 42 = .ok (.iload 5, 2) := by decide +kernel
theorem dX8_works_44 : decode cX8_works 44 = .ok (.aload_n 0, 1) := by decide +kernel
theorem dX8_works_45 : decode cX8_works 45 = .ok (.getfield 17, 3) := by decide +kernel
theorem dX8_works_48 : decode cX8_works 48 = .ok (.bipush 84, 2) := by decide +kernel
theorem dX8_works_50 : decode cX8_works 50 = .ok (.iload_n 1, 1) := by decide +kernel
theorem dX8_works_51 : decode cX8_works 51 = .ok (.imul, 1) := by decide +kernel
theorem dX8_works_52 : decode cX8_works 52 = .ok (.iload 6, 2) := by decide +kernel
theorem dX8_works_54 : decode cX8_works 54 = .ok (.iadd, 1) := by decide +kernel
theorem dX8_works_55 : decode cX8_works 55 = .ok (.baload, 1) := by decide +kernel
theorem dX8_works_56 : decode cX8_works 56 = .ok (.iload 4, 2) := by decide +kernel
theorem dX8_works_58 : decode cX8_works 58 = .ok (.if_icmp .eq 7, 3) := by decide +kernel
theorem dX8_works_61 : decode cX8_works 61 = .ok (.iconst 1, 1) := by decide +kernel
theorem dX8_works_62 : decode cX8_works 62 = .ok (.goto 4, 3) := by decide +kernel
theorem dX8_works_65 : decode cX8_works 65 = .ok (.iconst 0, 1) := by decide +kernel
theorem dX8_works_66 : decode cX8_works 66 = .ok (.iadd, 1) := by decide +kernel
theorem dX8_works_67 : decode cX8_works 67 = .ok (.istore 5, 2) := by decide +kernel
theorem dX8_works_69 : decode cX8_works 69 = .ok (.aload_n 0, 1) := by decide +kernel
theorem dX8_works_70 : decode cX8_works 70 = .ok (.getfield 17, 3) := by decide +kernel
theorem dX8_works_73 : decode cX8_works 73 = .ok (.bipush 84, 2) := by decide +kernel
theorem dX8_works_75 : decode cX8_works 75 = .ok (.iload_n 1, 1) := by decide +kernel
theorem dX8_works_76 : decode cX8_works 76 = .ok (.imul, 1) := by decide +kernel
theorem dX8_works_77 : decode cX8_works 77 = .ok (.iload 6, 2) := by decide +kernel
theorem dX8_works_79 : decode cX8_works 79 = .ok (.iadd, 1) := by decide +kernel
theorem dX8_works_80 : decode cX8_works 80 = .ok (.iload 4, 2) := by decide +kernel
theorem dX8_works_82 : decode cX8_works 82 = .ok (.bastore, 1) := by decide +kernel
theorem dX8_works_83 : decode cX8_works 83 = .ok (.iinc 6 1, 3) := by decide +kernel
theorem dX8_works_86 : decode cX8_works 86 = .ok (.goto (-50), 3) := by decide +kernel
theorem dX8_works_89 : decode cX8_works 89 = .ok (.iload 5, 2) := by decide +kernel
theorem dX8_works_91 : decode cX8_works 91 = .ok (.ireturn, 1) := by decide +kernel
theorem dX8_holds_0 : decode cX8_holds 0 = .ok (.aload_n 0, 1) := by decide +kernel
theorem dX8_holds_1 : decode cX8_holds 1 = .ok (.getfield 102, 3) := by decide +kernel
theorem dX8_holds_4 : decode cX8_holds 4 = .ok (.iconst 1, 1) := by decide +kernel
theorem dX8_holds_5 : decode cX8_holds 5 = .ok (.isub, 1) := by decide +kernel
theorem dX8_holds_6 : decode cX8_holds 6 = .ok (.istore 4, 2) := by decide +kernel
theorem dX8_holds_8 : decode cX8_holds 8 = .ok (.iload 4, 2) := by decide +kernel
theorem dX8_holds_10 : decode cX8_holds 10 = .ok (.ifCond .lt 45, 3) := by decide +kernel
theorem dX8_holds_13 : decode cX8_holds 13 = .ok (.aload_n 0, 1) := by decide +kernel
theorem dX8_holds_14 : decode cX8_holds 14 = .ok (.getfield 30, 3) := by decide +kernel
theorem dX8_holds_17 : decode cX8_holds 17 = .ok (.iload 4, 2) := by decide +kernel
theorem dX8_holds_19 : decode cX8_holds 19 = .ok (.iaload, 1) := by decide +kernel
theorem dX8_holds_20 : decode cX8_holds 20 = .ok (.iload_n 1, 1) := by decide +kernel
theorem dX8_holds_21 : decode cX8_holds 21 = .ok (.if_icmp .ne 28, 3) := by decide +kernel
theorem dX8_holds_24 : decode cX8_holds 24 = .ok (.aload_n 0, 1) := by decide +kernel
theorem dX8_holds_25 : decode cX8_holds 25 = .ok (.getfield 33, 3) := by decide +kernel
theorem dX8_holds_28 : decode cX8_holds 28 = .ok (.iload 4, 2) := by decide +kernel
theorem dX8_holds_30 : decode cX8_holds 30 = .ok (.iaload, 1) := by decide +kernel
theorem dX8_holds_31 : decode cX8_holds 31 = .ok (.iload_n 2, 1) := by decide +kernel
theorem dX8_holds_32 : decode cX8_holds 32 = .ok (.if_icmp .ne 17, 3) := by decide +kernel
theorem dX8_holds_35 : decode cX8_holds 35 = .ok (.aload_n 0, 1) := by decide +kernel
theorem dX8_holds_36 : decode cX8_holds 36 = .ok (.getfield 36, 3) := by decide +kernel
theorem dX8_holds_39 : decode cX8_holds 39 = .ok (.iload 4, 2) := by decide +kernel
theorem dX8_holds_41 : decode cX8_holds 41 = .ok (.iaload, 1) := by decide +kernel
theorem dX8_holds_42 : decode cX8_holds 42 = .ok (.iload_n 3, 1) := by decide +kernel
theorem dX8_holds_43 : decode cX8_holds 43 = .ok (.if_icmp .gt 6, 3) := by decide +kernel
theorem dX8_holds_46 : decode cX8_holds 46 = .ok (.iload 4, 2) := by decide +kernel
theorem dX8_holds_48 : decode cX8_holds 48 = .ok (.ireturn, 1) := by decide +kernel
theorem dX8_holds_49 : decode cX8_holds 49 = .ok (.iinc 4 (-1), 3) := by decide +kernel
theorem dX8_holds_52 : decode cX8_holds 52 = .ok (.goto (-44), 3) := by decide +kernel
theorem dX8_holds_55 : decode cX8_holds 55 = .ok (.iconst (-1), 1) := by decide +kernel
theorem dX8_holds_56 : decode cX8_holds 56 = .ok (.ireturn, 1) := by decide +kernel
theorem dX8_look_0 : decode cX8_look 0 = .ok (.aload_n 0, 1) := by decide +kernel
theorem dX8_look_1 : decode cX8_look 1 = .ok (.getfield 17, 3) := by decide +kernel
theorem dX8_look_4 : decode cX8_look 4 = .ok (.bipush 84, 2) := by decide +kernel
theorem dX8_look_6 : decode cX8_look 6 = .ok (.iload_n 1, 1) := by decide +kernel
theorem dX8_look_7 : decode cX8_look 7 = .ok (.imul, 1) := by decide +kernel
theorem dX8_look_8 : decode cX8_look 8 = .ok (.iload_n 2, 1) := by decide +kernel
theorem dX8_look_9 : decode cX8_look 9 = .ok (.iadd, 1) := by decide +kernel
theorem dX8_look_10 : decode cX8_look 10 = .ok (.baload, 1) := by decide +kernel
theorem dX8_look_11 : decode cX8_look 11 = .ok (.ifCond .eq 6, 3) := by decide +kernel
theorem dX8_look_14 : decode cX8_look 14 = .ok (.bipush (-3), 2) := by decide +kernel
theorem dX8_look_16 : decode cX8_look 16 = .ok (.ireturn, 1) := by decide +kernel
theorem dX8_look_17 : decode cX8_look 17 = .ok (.aload_n 0, 1) := by decide +kernel
theorem dX8_look_18 : decode cX8_look 18 = .ok (.iload_n 1, 1) := by decide +kernel
theorem dX8_look_19 : decode cX8_look 19 = .ok (.iload_n 2, 1) := by decide +kernel
theorem dX8_look_20 : decode cX8_look 20 = .ok (.iload_n 3, 1) := by decide +kernel
theorem dX8_look_21 : decode cX8_look 21 = .ok (.invokevirtual 127, 3) := by decide +kernel
theorem dX8_look_24 : decode cX8_look 24 = .ok (.istore 4, 2) := by decide +kernel
theorem dX8_look_26 : decode cX8_look 26 = .ok (.iload 4, 2) := by decide +kernel
theorem dX8_look_28 : decode cX8_look 28 = .ok (.ifCond .ge 8, 3) := by decide +kernel
theorem dX8_look_31 : decode cX8_look 31 = .ok (.bipush (-2), 2) := by decide +kernel
theorem dX8_look_33 : decode cX8_look 33 = .ok (.goto 10, 3) := by decide +kernel
theorem dX8_look_36 : decode cX8_look 36 = .ok (.aload_n 0, 1) := by decide +kernel
theorem dX8_look_37 : decode cX8_look 37 = .ok (.getfield 39, 3) := by decide +kernel
theorem dX8_look_40 : decode cX8_look 40 = .ok (.iload 4, 2) := by decide +kernel
theorem dX8_look_42 : decode cX8_look 42 = .ok (.iaload, 1) := by decide +kernel
theorem dX8_look_43 : decode cX8_look 43 = .ok (.ireturn, 1) := by decide +kernel
theorem dX8_seen_0 : decode cX8_seen 0 = .ok (.aload_n 0, 1) := by decide +kernel
theorem dX8_seen_1 : decode cX8_seen 1 = .ok (.iconst 0, 1) := by decide +kernel
theorem dX8_seen_2 : decode cX8_seen 2 = .ok (.putfield 91, 3) := by decide +kernel
theorem dX8_seen_5 : decode cX8_seen 5 = .ok (.aload_n 0, 1) := by decide +kernel
theorem dX8_seen_6 : decode cX8_seen 6 = .ok (.iload_n 1, 1) := by decide +kernel
theorem dX8_seen_7 : decode cX8_seen 7 = .ok (.invokevirtual 112, 3) := by decide +kernel
theorem dX8_seen_10 : decode cX8_seen 10 = .ok (.ifCond .eq 14, 3) := by decide +kernel
theorem dX8_seen_13 : decode cX8_seen 13 = .ok (.iload_n 2, 1) := by decide +kernel
theorem dX8_seen_14 : decode cX8_seen 14 = .ok (.invokestatic 116, 3) := by decide +kernel
theorem dX8_seen_17 : decode cX8_seen 17 = .ok (.ifCond .eq 7, 3) := by decide +kernel
theorem dX8_seen_20 : decode cX8_seen 20 = .ok (.iload_n 3, 1) := by decide +kernel
theorem dX8_seen_21 : decode cX8_seen 21 = .ok (.ifCond .ge 8, 3) := by decide +kernel
theorem dX8_seen_24 : decode cX8_seen 24 = .ok (.bipush (-4), 2) := by decide +kernel
theorem dX8_seen_26 : decode cX8_seen 26 = .ok (.goto 10, 3) := by decide +kernel
theorem dX8_seen_29 : decode cX8_seen 29 = .ok (.aload_n 0, 1) := by decide +kernel
theorem dX8_seen_30 : decode cX8_seen 30 = .ok (.iload_n 1, 1) := by decide +kernel
theorem dX8_seen_31 : decode cX8_seen 31 = .ok (.iload_n 2, 1) := by decide +kernel
theorem dX8_seen_32 : decode cX8_seen 32 = .ok (.iload_n 3, 1) := by decide +kernel
theorem dX8_seen_33 : decode cX8_seen 33 = .ok (.invokevirtual 131, 3) := by decide +kernel
theorem dX8_seen_36 : decode cX8_seen 36 = .ok (.ireturn, 1) := by decide +kernel
theorem dX8_kind_0 : decode cX8_kind 0 = .ok (.aload_n 0, 1) := by decide +kernel
theorem dX8_kind_1 : decode cX8_kind 1 = .ok (.iconst 0, 1) := by decide +kernel
theorem dX8_kind_2 : decode cX8_kind 2 = .ok (.putfield 91, 3) := by decide +kernel
theorem dX8_kind_5 : decode cX8_kind 5 = .ok (.aload_n 0, 1) := by decide +kernel
theorem dX8_kind_6 : decode cX8_kind 6 = .ok (.iload_n 1, 1) := by decide +kernel
theorem dX8_kind_7 : decode cX8_kind 7 = .ok (.invokevirtual 112, 3) := by decide +kernel
theorem dX8_kind_10 : decode cX8_kind 10 = .ok (.ifCond .eq 35, 3) := by decide +kernel
theorem dX8_kind_13 : decode cX8_kind 13 = .ok (.iload_n 2, 1) := by decide +kernel
theorem dX8_kind_14 : decode cX8_kind 14 = .ok (.invokestatic 116, 3) := by decide +kernel
theorem dX8_kind_17 : decode cX8_kind 17 = .ok (.ifCond .eq 28, 3) := by decide +kernel
theorem dX8_kind_20 : decode cX8_kind 20 = .ok (.iload_n 3, 1) := by decide +kernel
theorem dX8_kind_21 : decode cX8_kind 21 = .ok (.ifCond .lt 24, 3) := by decide +kernel
theorem dX8_kind_24 : decode cX8_kind 24 = .ok (.iload 4, 2) := by decide +kernel
theorem dX8_kind_26 : decode cX8_kind 26 = .ok (.ifCond .lt 19, 3) := by decide +kernel
theorem dX8_kind_29 : decode cX8_kind 29 = .ok (.iload 4, 2) := by decide +kernel
theorem dX8_kind_31 : decode cX8_kind 31 = .ok (.iconst 2, 1) := by decide +kernel
theorem dX8_kind_32 : decode cX8_kind 32 = .ok (.if_icmp .gt 13, 3) := by decide +kernel
theorem dX8_kind_35 : decode cX8_kind 35 = .ok (.aload_n 0, 1) := by decide +kernel
theorem dX8_kind_36 : decode cX8_kind 36 = .ok (.iload_n 1, 1) := by decide +kernel
theorem dX8_kind_37 : decode cX8_kind 37 = .ok (.iload_n 2, 1) := by decide +kernel
theorem dX8_kind_38 : decode cX8_kind 38 = .ok (.iload_n 3, 1) := by decide +kernel
theorem dX8_kind_39 : decode cX8_kind 39 = .ok (.invokevirtual 131, 3) := by decide +kernel
theorem dX8_kind_42 : decode cX8_kind 42 = .ok (.ifCond .ge 5, 3) := by decide +kernel
theorem dX8_kind_45 : decode cX8_kind 45 = .ok (.iconst (-1), 1) := by decide +kernel
theorem dX8_kind_46 : decode cX8_kind 46 = .ok (.ireturn, 1) := by decide +kernel
theorem dX8_kind_47 : decode cX8_kind 47 = .ok (.aload_n 0, 1) := by decide +kernel
theorem dX8_kind_48 : decode cX8_kind 48 = .ok (.getfield 42, 3) := by decide +kernel
theorem dX8_kind_51 : decode cX8_kind 51 = .ok (.iconst 3, 1) := by decide +kernel
theorem dX8_kind_52 : decode cX8_kind 52 = .ok (.aload_n 0, 1) := by decide +kernel
theorem dX8_kind_53 : decode cX8_kind 53 = .ok (.iload_n 1, 1) := by decide +kernel
theorem dX8_kind_54 : decode cX8_kind 54 = .ok (.iload_n 2, 1) := by decide +kernel
theorem dX8_kind_55 : decode cX8_kind 55 = .ok (.iload_n 3, 1) := by decide +kernel
theorem dX8_kind_56 : decode cX8_kind 56 = .ok (.invokevirtual 127, 3) := by decide +kernel
theorem dX8_kind_59 : decode cX8_kind 59 = .ok (.imul, 1) := by decide +kernel
theorem dX8_kind_60 : decode cX8_kind 60 = .ok (.iload 4, 2) := by decide +kernel
theorem dX8_kind_62 : decode cX8_kind 62 = .ok (.iadd, 1) := by decide +kernel
theorem dX8_kind_63 : decode cX8_kind 63 = .ok (.iaload, 1) := by decide +kernel
theorem dX8_kind_64 : decode cX8_kind 64 = .ok (.ireturn, 1) := by decide +kernel
theorem dX8_lookUp_0 : decode cX8_lookUp 0 = .ok (.iconst 0, 1) := by decide +kernel
theorem dX8_lookUp_1 : decode cX8_lookUp 1 = .ok (.istore_n 2, 1) := by decide +kernel
theorem dX8_lookUp_2 : decode cX8_lookUp 2 = .ok (.iload_n 2, 1) := by decide +kernel
theorem dX8_lookUp_3 : decode cX8_lookUp 3 = .ok (.bipush 16, 2) := by decide +kernel
theorem dX8_lookUp_5 : decode cX8_lookUp 5 = .ok (.if_icmp .ge 69, 3) := by decide +kernel
theorem dX8_lookUp_8 : decode cX8_lookUp 8 = .ok (.iconst 0, 1) := by decide +kernel
theorem dX8_lookUp_9 : decode cX8_lookUp 9 = .ok (.istore_n 3, 1) := by decide +kernel
theorem dX8_lookUp_10 : decode cX8_lookUp 10 = .ok (.iload_n 3, 1) := by decide +kernel
theorem dX8_lookUp_11 : decode cX8_lookUp 11 = .ok (.bipush 84, 2) := by decide +kernel
theorem dX8_lookUp_13 : decode cX8_lookUp 13 = .ok (.if_icmp .ge 55, 3) := by decide +kernel
theorem dX8_lookUp_16 : decode cX8_lookUp 16 = .ok (.aload_n 0, 1) := by decide +kernel
theorem dX8_lookUp_17 : decode cX8_lookUp 17 = .ok (.getfield 45, 3) := by decide +kernel
theorem dX8_lookUp_20 : decode cX8_lookUp 20 = .ok (.bipush 84, 2) := by decide +kernel
theorem dX8_lookUp_22 : decode cX8_lookUp 22 = .ok (.iload_n 2, 1) := by decide +kernel
theorem dX8_lookUp_23 : decode cX8_lookUp 23 = .ok (.imul, 1) := by decide +kernel
theorem dX8_lookUp_24 : decode cX8_lookUp 24 = .ok (.iload_n 3, 1) := by decide +kernel
theorem dX8_lookUp_25 : decode cX8_lookUp 25 = .ok (.iadd, 1) := by decide +kernel
theorem dX8_lookUp_26 : decode cX8_lookUp 26 = .ok (.aload_n 0, 1) := by decide +kernel
theorem dX8_lookUp_27 : decode cX8_lookUp 27 = .ok (.getfield 13, 3) := by decide +kernel
theorem dX8_lookUp_30 : decode cX8_lookUp 30 = .ok (.iload_n 2, 1) := by decide +kernel
theorem dX8_lookUp_31 : decode cX8_lookUp 31 = .ok (.baload, 1) := by decide +kernel
theorem dX8_lookUp_32 : decode cX8_lookUp 32 = .ok (.ifCond .eq 27, 3) := by decide +kernel
theorem dX8_lookUp_35 : decode cX8_lookUp 35 = .ok (.aload_n 0, 1) := by decide +kernel
theorem dX8_lookUp_36 : decode cX8_lookUp 36 = .ok (.getfield 17, 3) := by decide +kernel
theorem dX8_lookUp_39 : decode cX8_lookUp 39 = .ok (.bipush 84, 2) := by decide +kernel
theorem dX8_lookUp_41 : decode cX8_lookUp 41 = .ok (.iload_n 2, 1) := by decide +kernel
theorem dX8_lookUp_42 : decode cX8_lookUp 42 = .ok (.imul, 1) := by decide +kernel
theorem dX8_lookUp_43 : decode cX8_lookUp 43 = .ok (.iload_n 3, 1) := by decide +kernel
theorem dX8_lookUp_44 : decode cX8_lookUp 44 = .ok (.iadd, 1) := by decide +kernel
theorem dX8_lookUp_45 : decode cX8_lookUp 45 = .ok (.baload, 1) := by decide +kernel
theorem dX8_lookUp_46 : decode cX8_lookUp 46 = .ok (.ifCond .eq 8, 3) := by decide +kernel
theorem dX8_lookUp_49 : decode cX8_lookUp 49 = .ok (.bipush (-3), 2) := by decide +kernel
theorem dX8_lookUp_51 : decode cX8_lookUp 51 = .ok (.goto 10, 3) := by decide +kernel
theorem dX8_lookUp_54 : decode cX8_lookUp 54 = .ok (.bipush (-2), 2) := by decide +kernel
theorem dX8_lookUp_56 : decode cX8_lookUp 56 = .ok (.goto 5, 3) := by decide +kernel
theorem dX8_lookUp_59 : decode cX8_lookUp 59 = .ok (.bipush (-4), 2) := by decide +kernel
theorem dX8_lookUp_61 : decode cX8_lookUp 61 = .ok (.iastore, 1) := by decide +kernel
theorem dX8_lookUp_62 : decode cX8_lookUp 62 = .ok (.iinc 3 1, 3) := by decide +kernel
theorem dX8_lookUp_65 : decode cX8_lookUp 65 = .ok (.goto (-55), 3) := by decide +kernel
theorem dX8_lookUp_68 : decode cX8_lookUp 68 = .ok (.iinc 2 1, 3) := by decide +kernel
theorem dX8_lookUp_71 : decode cX8_lookUp 71 = .ok (.goto (-69), 3) := by decide +kernel
theorem dX8_lookUp_74 : decode cX8_lookUp 74 = .ok (.iconst 0, 1) := by decide +kernel
theorem dX8_lookUp_75 : decode cX8_lookUp 75 = .ok (.istore_n 2, 1) := by decide +kernel
theorem dX8_lookUp_76 : decode cX8_lookUp 76 = .ok (.iload_n 2, 1) := by decide +kernel
theorem dX8_lookUp_77 : decode cX8_lookUp 77 = .ok (.aload_n 0, 1) := by decide +kernel
theorem dX8_lookUp_78 : decode cX8_lookUp 78 = .ok (.getfield 102, 3) := by decide +kernel
theorem dX8_lookUp_81 : decode cX8_lookUp 81 = .ok (.if_icmp .ge 70, 3) := by decide +kernel
theorem dX8_lookUp_84 : decode cX8_lookUp 84 = .ok (.aload_n 0, 1) := by decide +kernel
theorem dX8_lookUp_85 : decode cX8_lookUp 85 = .ok (.getfield 36, 3) := by decide +kernel
theorem dX8_lookUp_88 : decode cX8_lookUp 88 = .ok (.iload_n 2, 1) := by decide +kernel
theorem dX8_lookUp_89 : decode cX8_lookUp 89 = .ok (.iaload, 1) := by decide +kernel
theorem dX8_lookUp_90 : decode cX8_lookUp 90 = .ok (.iload_n 1, 1) := by decide +kernel
theorem dX8_lookUp_91 : decode cX8_lookUp 91 = .ok (.if_icmp .gt 54, 3) := by decide +kernel
theorem dX8_lookUp_94 : decode cX8_lookUp 94 = .ok (.aload_n 0, 1) := by decide +kernel
theorem dX8_lookUp_95 : decode cX8_lookUp 95 = .ok (.getfield 17, 3) := by decide +kernel
theorem dX8_lookUp_98 : decode cX8_lookUp 98 = .ok (.bipush 84, 2) := by decide +kernel
theorem dX8_lookUp_100 : decode cX8_lookUp 100 = .ok (.aload_n 0, 1) := by decide +kernel
theorem dX8_lookUp_101 : decode cX8_lookUp 101 = .ok (.getfield 30, 3) := by decide +kernel
theorem dX8_lookUp_104 : decode cX8_lookUp 104 = .ok (.iload_n 2, 1) := by decide +kernel
theorem dX8_lookUp_105 : decode cX8_lookUp 105 = .ok (.iaload, 1) := by decide +kernel
theorem dX8_lookUp_106 : decode cX8_lookUp 106 = .ok (.imul, 1) := by decide +kernel
theorem dX8_lookUp_107 : decode cX8_lookUp 107 = .ok (.aload_n 0, 1) := by decide +kernel
theorem dX8_lookUp_108 : decode cX8_lookUp 108 = .ok (.getfield 33, 3) := by decide +kernel
theorem dX8_lookUp_111 : decode cX8_lookUp 111 = .ok (.iload_n 2, 1) := by decide +kernel
theorem dX8_lookUp_112 : decode cX8_lookUp 112 = .ok (.iaload, 1) := by decide +kernel
theorem dX8_lookUp_113 : decode cX8_lookUp 113 = .ok (.iadd, 1) := by decide +kernel
theorem dX8_lookUp_114 : decode cX8_lookUp 114 = .ok (.baload, 1) := by decide +kernel
theorem dX8_lookUp_115 : decode cX8_lookUp 115 = .ok (.ifCond .ne 30, 3) := by decide +kernel
theorem dX8_lookUp_118 : decode cX8_lookUp 118 = .ok (.aload_n 0, 1) := by decide +kernel
theorem dX8_lookUp_119 : decode cX8_lookUp 119 = .ok (.getfield 45, 3) := by decide +kernel
theorem dX8_lookUp_122 : decode cX8_lookUp 122 = .ok (.bipush 84, 2) := by decide +kernel
theorem dX8_lookUp_124 : decode cX8_lookUp 124 = .ok (.aload_n 0, 1) := by decide +kernel
theorem dX8_lookUp_125 : decode cX8_lookUp 125 = .ok (.getfield 30, 3) := by decide +kernel
theorem dX8_lookUp_128 : decode cX8_lookUp 128 = .ok (.iload_n 2, 1) := by decide +kernel
theorem dX8_lookUp_129 : decode cX8_lookUp 129 = .ok (.iaload, 1) := by decide +kernel
theorem dX8_lookUp_130 : decode cX8_lookUp 130 = .ok (.imul, 1) := by decide +kernel
theorem dX8_lookUp_131 : decode cX8_lookUp 131 = .ok (.aload_n 0, 1) := by decide +kernel
theorem dX8_lookUp_132 : decode cX8_lookUp 132 = .ok (.getfield 33, 3) := by decide +kernel
theorem dX8_lookUp_135 : decode cX8_lookUp 135 = .ok (.iload_n 2, 1) := by decide +kernel
theorem dX8_lookUp_136 : decode cX8_lookUp 136 = .ok (.iaload, 1) := by decide +kernel
theorem dX8_lookUp_137 : decode cX8_lookUp 137 = .ok (.iadd, 1) := by decide +kernel
theorem dX8_lookUp_138 : decode cX8_lookUp 138 = .ok (.aload_n 0, 1) := by decide +kernel
theorem dX8_lookUp_139 : decode cX8_lookUp 139 = .ok (.getfield 39, 3) := by decide +kernel
theorem dX8_lookUp_142 : decode cX8_lookUp 142 = .ok (.iload_n 2, 1) := by decide +kernel
theorem dX8_lookUp_143 : decode cX8_lookUp 143 = .ok (.iaload, 1) := by decide +kernel
theorem dX8_lookUp_144 : decode cX8_lookUp 144 = .ok (.iastore, 1) := by decide +kernel
theorem dX8_lookUp_145 : decode cX8_lookUp 145 = .ok (.iinc 2 1, 3) := by decide +kernel
theorem dX8_lookUp_148 : decode cX8_lookUp 148 = .ok (.goto (-72), 3) := by decide +kernel
theorem dX8_lookUp_151 : decode cX8_lookUp 151 = .ok (.iconst 0, 1) := by decide +kernel
theorem dX8_lookUp_152 : decode cX8_lookUp 152 = .ok (.istore_n 2, 1) := by decide +kernel
theorem dX8_lookUp_153 : decode cX8_lookUp 153 = .ok (.iload_n 2, 1) := by decide +kernel
theorem dX8_lookUp_154 : decode cX8_lookUp 154 = .ok (.bipush 16, 2) := by decide +kernel
theorem dX8_lookUp_156 : decode cX8_lookUp 156 = .ok (.if_icmp .ge 86, 3) := by decide +kernel
theorem dX8_lookUp_159 : decode cX8_lookUp 159 = .ok (.aload_n 0, 1) := by decide +kernel
theorem dX8_lookUp_160 : decode cX8_lookUp 160 = .ok (.getfield 48, 3) := by decide +kernel
theorem dX8_lookUp_163 : decode cX8_lookUp 163 = .ok (.iload_n 2, 1) := by decide +kernel
theorem dX8_lookUp_164 : decode cX8_lookUp 164 = .ok (.aload_n 0, 1) := by decide +kernel
theorem dX8_lookUp_165 : decode cX8_lookUp 165 = .ok (.getfield 13, 3) := by decide +kernel
theorem dX8_lookUp_168 : decode cX8_lookUp 168 = .ok (.iload_n 2, 1) := by decide +kernel
theorem dX8_lookUp_169 : decode cX8_lookUp 169 = .ok (.baload, 1) := by decide +kernel
theorem dX8_lookUp_170 : decode cX8_lookUp 170 = .ok (.ifCond .eq 16, 3) := by decide +kernel
theorem dX8_lookUp_173 : decode cX8_lookUp 173 = .ok (.aload_n 0, 1) := by decide +kernel
theorem dX8_lookUp_174 : decode cX8_lookUp 174 = .ok (.getfield 27, 3) := by decide +kernel
theorem dX8_lookUp_177 : decode cX8_lookUp 177 = .ok (.iload_n 2, 1) := by decide +kernel
theorem dX8_lookUp_178 : decode cX8_lookUp 178 = .ok (.iaload, 1) := by decide +kernel
theorem dX8_lookUp_179 : decode cX8_lookUp 179 = .ok (.ifCond .lt 7, 3) := by decide +kernel
theorem dX8_lookUp_182 : decode cX8_lookUp 182 = .ok (.iconst 1, 1) := by decide +kernel
theorem dX8_lookUp_183 : decode cX8_lookUp 183 = .ok (.goto 4, 3) := by decide +kernel
theorem dX8_lookUp_186 : decode cX8_lookUp 186 = .ok (.iconst 0, 1) := by decide +kernel
theorem dX8_lookUp_187 : decode cX8_lookUp 187 = .ok (.bastore, 1) := by decide +kernel
theorem dX8_lookUp_188 : decode cX8_lookUp 188 = .ok (.iconst 0, 1) := by decide +kernel
theorem dX8_lookUp_189 : decode cX8_lookUp 189 = .ok (.istore_n 3, 1) := by decide +kernel
theorem dX8_lookUp_190 : decode cX8_lookUp 190 = .ok (.iload_n 3, 1) := by decide +kernel
theorem dX8_lookUp_191 : decode cX8_lookUp 191 = .ok (.bipush 84, 2) := by decide +kernel
theorem dX8_lookUp_193 : decode cX8_lookUp 193 = .ok (.if_icmp .ge 43, 3) := by decide +kernel
theorem dX8_lookUp_196 : decode cX8_lookUp 196 = .ok (.aload_n 0, 1) := by decide +kernel
theorem dX8_lookUp_197 : decode cX8_lookUp 197 = .ok (.getfield 48, 3) := by decide +kernel
theorem dX8_lookUp_200 : decode cX8_lookUp 200 = .ok (.iload_n 2, 1) := by decide +kernel
theorem dX8_lookUp_201 : decode cX8_lookUp 201 = .ok (.aload_n 0, 1) := by decide +kernel
theorem dX8_lookUp_202 : decode cX8_lookUp 202 = .ok (.getfield 48, 3) := by decide +kernel
theorem dX8_lookUp_205 : decode cX8_lookUp 205 = .ok (.iload_n 2, 1) := by decide +kernel
theorem dX8_lookUp_206 : decode cX8_lookUp 206 = .ok (.baload, 1) := by decide +kernel
theorem dX8_lookUp_207 : decode cX8_lookUp 207 = .ok (.ifCond .eq 21, 3) := by decide +kernel
theorem dX8_lookUp_210 : decode cX8_lookUp 210 = .ok (.aload_n 0, 1) := by decide +kernel
theorem dX8_lookUp_211 : decode cX8_lookUp 211 = .ok (.getfield 45, 3) := by decide +kernel
theorem dX8_lookUp_214 : decode cX8_lookUp 214 = .ok (.bipush 84, 2) := by decide +kernel
theorem dX8_lookUp_216 : decode cX8_lookUp 216 = .ok (.iload_n 2, 1) := by decide +kernel
theorem dX8_lookUp_217 : decode cX8_lookUp 217 = .ok (.imul, 1) := by decide +kernel
theorem dX8_lookUp_218 : decode cX8_lookUp 218 = .ok (.iload_n 3, 1) := by decide +kernel
theorem dX8_lookUp_219 : decode cX8_lookUp 219 = .ok (.iadd, 1) := by decide +kernel
theorem dX8_lookUp_220 : decode cX8_lookUp 220 = .ok (.iaload, 1) := by decide +kernel
theorem dX8_lookUp_221 : decode cX8_lookUp 221 = .ok (.ifCond .lt 7, 3) := by decide +kernel
theorem dX8_lookUp_224 : decode cX8_lookUp 224 = .ok (.iconst 1, 1) := by decide +kernel
theorem dX8_lookUp_225 : decode cX8_lookUp 225 = .ok (.goto 4, 3) := by decide +kernel
theorem dX8_lookUp_228 : decode cX8_lookUp 228 = .ok (.iconst 0, 1) := by decide +kernel
theorem dX8_lookUp_229 : decode cX8_lookUp 229 = .ok (.bastore, 1) := by decide +kernel
theorem dX8_lookUp_230 : decode cX8_lookUp 230 = .ok (.iinc 3 1, 3) := by decide +kernel
theorem dX8_lookUp_233 : decode cX8_lookUp 233 = .ok (.goto (-43), 3) := by decide +kernel
theorem dX8_lookUp_236 : decode cX8_lookUp 236 = .ok (.iinc 2 1, 3) := by decide +kernel
theorem dX8_lookUp_239 : decode cX8_lookUp 239 = .ok (.goto (-86), 3) := by decide +kernel
theorem dX8_lookUp_242 : decode cX8_lookUp 242 = .ok (.return_, 1) := by decide +kernel
theorem dX8_whole_0 : decode cX8_whole 0 = .ok (.aload_n 0, 1) := by decide +kernel
theorem dX8_whole_1 : decode cX8_whole 1 = .ok (.iconst 0, 1) := by decide +kernel
theorem dX8_whole_2 : decode cX8_whole 2 = .ok (.putfield 91, 3) := by decide +kernel
theorem dX8_whole_5 : decode cX8_whole 5 = .ok (.aload_n 0, 1) := by decide +kernel
theorem dX8_whole_6 : decode cX8_whole 6 = .ok (.iload_n 1, 1) := by decide +kernel
theorem dX8_whole_7 : decode cX8_whole 7 = .ok (.invokevirtual 112, 3) := by decide +kernel
theorem dX8_whole_10 : decode cX8_whole 10 = .ok (.ifCond .eq 7, 3) := by decide +kernel
theorem dX8_whole_13 : decode cX8_whole 13 = .ok (.iload_n 2, 1) := by decide +kernel
theorem dX8_whole_14 : decode cX8_whole 14 = .ok (.ifCond .ge 5, 3) := by decide +kernel
theorem dX8_whole_17 : decode cX8_whole 17 = .ok (.iconst (-1), 1) := by decide +kernel
theorem dX8_whole_18 : decode cX8_whole 18 = .ok (.ireturn, 1) := by decide +kernel
theorem dX8_whole_19 : decode cX8_whole 19 = .ok (.aload_n 0, 1) := by decide +kernel
theorem dX8_whole_20 : decode cX8_whole 20 = .ok (.iload_n 2, 1) := by decide +kernel
theorem dX8_whole_21 : decode cX8_whole 21 = .ok (.invokevirtual 134, 3) := by decide +kernel
theorem dX8_whole_24 : decode cX8_whole 24 = .ok (.aload_n 0, 1) := by decide +kernel
theorem dX8_whole_25 : decode cX8_whole 25 = .ok (.getfield 48, 3) := by decide +kernel
theorem dX8_whole_28 : decode cX8_whole 28 = .ok (.iload_n 1, 1) := by decide +kernel
theorem dX8_whole_29 : decode cX8_whole 29 = .ok (.baload, 1) := by decide +kernel
theorem dX8_whole_30 : decode cX8_whole 30 = .ok (.ifCond .eq 7, 3) := by decide +kernel
theorem dX8_whole_33 : decode cX8_whole 33 = .ok (.iconst 1, 1) := by decide +kernel
theorem dX8_whole_34 : decode cX8_whole 34 = .ok (.goto 4, 3) := by decide +kernel
theorem dX8_whole_37 : decode cX8_whole 37 = .ok (.iconst 0, 1) := by decide +kernel
theorem dX8_whole_38 : decode cX8_whole 38 = .ok (.ireturn, 1) := by decide +kernel
theorem dX8_sums_0 : decode cX8_sums 0 = .ok (.iconst 0, 1) := by decide +kernel
theorem dX8_sums_1 : decode cX8_sums 1 = .ok (.istore_n 3, 1) := by decide +kernel
theorem dX8_sums_2 : decode cX8_sums 2 = .ok (.iload_n 3, 1) := by decide +kernel
theorem dX8_sums_3 : decode cX8_sums 3 = .ok (.bipush 7, 2) := by decide +kernel
theorem dX8_sums_5 : decode cX8_sums 5 = .ok (.if_icmp .ge 16, 3) := by decide +kernel
theorem dX8_sums_8 : decode cX8_sums 8 = .ok (.aload_n 0, 1) := by decide +kernel
theorem dX8_sums_9 : decode cX8_sums 9 = .ok (.getfield 51, 3) := by decide +kernel
theorem dX8_sums_12 : decode cX8_sums 12 = .ok (.iload_n 3, 1) := by decide +kernel
theorem dX8_sums_13 : decode cX8_sums 13 = .ok (.lconst 0, 1) := by decide +kernel
theorem dX8_sums_14 : decode cX8_sums 14 = .ok (.lastore, 1) := by decide +kernel
theorem dX8_sums_15 : decode cX8_sums 15 = .ok (.iinc 3 1, 3) := by decide +kernel
theorem dX8_sums_18 : decode cX8_sums 18 = .ok (.goto (-16), 3) := by decide +kernel
theorem dX8_sums_21 : decode cX8_sums 21 = .ok (.iconst 0, 1) := by decide +kernel
theorem dX8_sums_22 : decode cX8_sums 22 = .ok (.istore_n 3, 1) := by decide +kernel
theorem dX8_sums_23 : decode cX8_sums 23 = .ok (.iload_n 3, 1) := by decide +kernel
theorem dX8_sums_24 : decode cX8_sums 24 = .ok (.bipush 12, 2) := by decide +kernel
theorem dX8_sums_26 : decode cX8_sums 26 = .ok (.if_icmp .ge 16, 3) := by decide +kernel
theorem dX8_sums_29 : decode cX8_sums 29 = .ok (.aload_n 0, 1) := by decide +kernel
theorem dX8_sums_30 : decode cX8_sums 30 = .ok (.getfield 55, 3) := by decide +kernel
theorem dX8_sums_33 : decode cX8_sums 33 = .ok (.iload_n 3, 1) := by decide +kernel
theorem dX8_sums_34 : decode cX8_sums 34 = .ok (.lconst 0, 1) := by decide +kernel
theorem dX8_sums_35 : decode cX8_sums 35 = .ok (.lastore, 1) := by decide +kernel
theorem dX8_sums_36 : decode cX8_sums 36 = .ok (.iinc 3 1, 3) := by decide +kernel
theorem dX8_sums_39 : decode cX8_sums 39 = .ok (.goto (-16), 3) := by decide +kernel
theorem dX8_sums_42 : decode cX8_sums 42 = .ok (.aload_n 0, 1) := by decide +kernel
theorem dX8_sums_43 : decode cX8_sums 43 = .ok (.lconst 0, 1) := by decide +kernel
theorem dX8_sums_44 : decode cX8_sums 44 = .ok (.putfield 137, 3) := by decide +kernel
theorem dX8_sums_47 : decode cX8_sums 47 = .ok (.aload_n 0, 1) := by decide +kernel
theorem dX8_sums_48 : decode cX8_sums 48 = .ok (.iconst 0, 1) := by decide +kernel
theorem dX8_sums_49 : decode cX8_sums 49 = .ok (.putfield 141, 3) := by decide +kernel
theorem dX8_sums_52 : decode cX8_sums 52 = .ok (.iconst 0, 1) := by decide +kernel
theorem dX8_sums_53 : decode cX8_sums 53 = .ok (.istore_n 3, 1) := by decide +kernel
theorem dX8_sums_54 : decode cX8_sums 54 = .ok (.iload_n 3, 1) := by decide +kernel
theorem dX8_sums_55 : decode cX8_sums 55 = .ok (.bipush 16, 2) := by decide +kernel
theorem dX8_sums_57 : decode cX8_sums 57 = .ok (.if_icmp .ge 144, 3) := by decide +kernel
theorem dX8_sums_60 : decode cX8_sums 60 = .ok (.aload_n 0, 1) := by decide +kernel
theorem dX8_sums_61 : decode cX8_sums 61 = .ok (.getfield 141, 3) := by decide +kernel
theorem dX8_sums_64 : decode cX8_sums 64 = .ok (.iconst 4, 1) := by decide +kernel
theorem dX8_sums_65 : decode cX8_sums 65 = .ok (.if_icmp .ge 136, 3) := by decide +kernel
theorem dX8_sums_68 : decode cX8_sums 68 = .ok (.iload_n 3, 1) := by decide +kernel
theorem dX8_sums_69 : decode cX8_sums 69 = .ok (.iload_n 2, 1) := by decide +kernel
theorem dX8_sums_70 : decode cX8_sums 70 = .ok (.if_icmp .eq 125, 3) := by decide +kernel
theorem dX8_sums_73 : decode cX8_sums 73 = .ok (.aload_n 0, 1) := by decide +kernel
theorem dX8_sums_74 : decode cX8_sums 74 = .ok (.getfield 48, 3) := by decide +kernel
theorem dX8_sums_77 : decode cX8_sums 77 = .ok (.iload_n 3, 1) := by decide +kernel
theorem dX8_sums_78 : decode cX8_sums 78 = .ok (.baload, 1) := by decide +kernel
theorem dX8_sums_79 : decode cX8_sums 79 = .ok (.ifCond .eq 116, 3) := by decide +kernel
theorem dX8_sums_82 : decode cX8_sums 82 = .ok (.aload_n 0, 1) := by decide +kernel
theorem dX8_sums_83 : decode cX8_sums 83 = .ok (.getfield 27, 3) := by decide +kernel
theorem dX8_sums_86 : decode cX8_sums 86 = .ok (.iload_n 3, 1) := by decide +kernel
theorem dX8_sums_87 : decode cX8_sums 87 = .ok (.iaload, 1) := by decide +kernel
theorem dX8_sums_88 : decode cX8_sums 88 = .ok (.iload_n 1, 1) := by decide +kernel
theorem dX8_sums_89 : decode cX8_sums 89 = .ok (.if_icmp .eq 6, 3) := by decide +kernel
theorem dX8_sums_92 : decode cX8_sums 92 = .ok (.goto 103, 3) := by decide +kernel
theorem dX8_sums_95 : decode cX8_sums 95 = .ok (.aload_n 0, 1) := by decide +kernel
theorem dX8_sums_96 : decode cX8_sums 96 = .ok (.dup, 1) := by decide +kernel
theorem dX8_sums_97 : decode cX8_sums 97 = .ok (.getfield 141, 3) := by decide +kernel
theorem dX8_sums_100 : decode cX8_sums 100 = .ok (.iconst 1, 1) := by decide +kernel
theorem dX8_sums_101 : decode cX8_sums 101 = .ok (.iadd, 1) := by decide +kernel
theorem dX8_sums_102 : decode cX8_sums 102 = .ok (.putfield 141, 3) := by decide +kernel
theorem dX8_sums_105 : decode cX8_sums 105 = .ok (.iconst 0, 1) := by decide +kernel
theorem dX8_sums_106 : decode cX8_sums 106 = .ok (.istore 4, 2) := by decide +kernel
theorem dX8_sums_108 : decode cX8_sums 108 = .ok (.iload 4, 2) := by decide +kernel
theorem dX8_sums_110 : decode cX8_sums 110 = .ok (.bipush 84, 2) := by decide +kernel
theorem dX8_sums_112 : decode cX8_sums 112 = .ok (.if_icmp .ge 83, 3) := by decide +kernel
theorem dX8_sums_115 : decode cX8_sums 115 = .ok (.aload_n 0, 1) := by decide +kernel
theorem dX8_sums_116 : decode cX8_sums 116 = .ok (.getfield 51, 3) := by decide +kernel
theorem dX8_sums_119 : decode cX8_sums 119 = .ok (.iload 4, 2) := by decide +kernel
theorem dX8_sums_121 : decode cX8_sums 121 = .ok (.bipush 7, 2) := by decide +kernel
theorem dX8_sums_123 : decode cX8_sums 123 = .ok (.irem, 1) := by decide +kernel
theorem dX8_sums_124 : decode cX8_sums 124 = .ok (.dup2, 1) := by decide +kernel
theorem dX8_sums_125 : decode cX8_sums 125 = .ok (.laload, 1) := by decide +kernel
theorem dX8_sums_126 : decode cX8_sums 126 = .ok (.aload_n 0, 1) := by decide +kernel
theorem dX8_sums_127 : decode cX8_sums 127 = .ok (.getfield 45, 3) := by decide +kernel
theorem dX8_sums_130 : decode cX8_sums 130 = .ok (.bipush 84, 2) := by decide +kernel
theorem dX8_sums_132 : decode cX8_sums 132 = .ok (.iload_n 3, 1) := by decide +kernel
theorem dX8_sums_133 : decode cX8_sums 133 = .ok (.imul, 1) := by decide +kernel
theorem dX8_sums_134 : decode cX8_sums 134 = .ok (.iload 4, 2) := by decide +kernel
theorem dX8_sums_136 : decode cX8_sums 136 = .ok (.iadd, 1) := by decide +kernel
theorem dX8_sums_137 : decode cX8_sums 137 = .ok (.iaload, 1) := by decide +kernel
theorem dX8_sums_138 : decode cX8_sums 138 = .ok (.i2l, 1) := by decide +kernel
theorem dX8_sums_139 : decode cX8_sums 139 = .ok (.ladd, 1) := by decide +kernel
theorem dX8_sums_140 : decode cX8_sums 140 = .ok (.lastore, 1) := by decide +kernel
theorem dX8_sums_141 : decode cX8_sums 141 = .ok (.aload_n 0, 1) := by decide +kernel
theorem dX8_sums_142 : decode cX8_sums 142 = .ok (.getfield 55, 3) := by decide +kernel
theorem dX8_sums_145 : decode cX8_sums 145 = .ok (.iload 4, 2) := by decide +kernel
theorem dX8_sums_147 : decode cX8_sums 147 = .ok (.bipush 7, 2) := by decide +kernel
theorem dX8_sums_149 : decode cX8_sums 149 = .ok (.idiv, 1) := by decide +kernel
theorem dX8_sums_150 : decode cX8_sums 150 = .ok (.dup2, 1) := by decide +kernel
theorem dX8_sums_151 : decode cX8_sums 151 = .ok (.laload, 1) := by decide +kernel
theorem dX8_sums_152 : decode cX8_sums 152 = .ok (.aload_n 0, 1) := by decide +kernel
theorem dX8_sums_153 : decode cX8_sums 153 = .ok (.getfield 45, 3) := by decide +kernel
theorem dX8_sums_156 : decode cX8_sums 156 = .ok (.bipush 84, 2) := by decide +kernel
theorem dX8_sums_158 : decode cX8_sums 158 = .ok (.iload_n 3, 1) := by decide +kernel
theorem dX8_sums_159 : decode cX8_sums 159 = .ok (.imul, 1) := by decide +kernel
theorem dX8_sums_160 : decode cX8_sums 160 = .ok (.iload 4, 2) := by decide +kernel
theorem dX8_sums_162 : decode cX8_sums 162 = .ok (.iadd, 1) := by decide +kernel
theorem dX8_sums_163 : decode cX8_sums 163 = .ok (.iaload, 1) := by decide +kernel
theorem dX8_sums_164 : decode cX8_sums 164 = .ok (.i2l, 1) := by decide +kernel
theorem dX8_sums_165 : decode cX8_sums 165 = .ok (.ladd, 1) := by decide +kernel
theorem dX8_sums_166 : decode cX8_sums 166 = .ok (.lastore, 1) := by decide +kernel
theorem dX8_sums_167 : decode cX8_sums 167 = .ok (.aload_n 0, 1) := by decide +kernel
theorem dX8_sums_168 : decode cX8_sums 168 = .ok (.dup, 1) := by decide +kernel
theorem dX8_sums_169 : decode cX8_sums 169 = .ok (.getfield 137, 3) := by decide +kernel
theorem dX8_sums_172 : decode cX8_sums 172 = .ok (.aload_n 0, 1) := by decide +kernel
theorem dX8_sums_173 : decode cX8_sums 173 = .ok (.getfield 45, 3) := by decide +kernel
theorem dX8_sums_176 : decode cX8_sums 176 = .ok (.bipush 84, 2) := by decide +kernel
theorem dX8_sums_178 : decode cX8_sums 178 = .ok (.iload_n 3, 1) := by decide +kernel
theorem dX8_sums_179 : decode cX8_sums 179 = .ok (.imul, 1) := by decide +kernel
theorem dX8_sums_180 : decode cX8_sums 180 = .ok (.iload 4, 2) := by decide +kernel
theorem dX8_sums_182 : decode cX8_sums 182 = .ok (.iadd, 1) := by decide +kernel
theorem dX8_sums_183 : decode cX8_sums 183 = .ok (.iaload, 1) := by decide +kernel
theorem dX8_sums_184 : decode cX8_sums 184 = .ok (.i2l, 1) := by decide +kernel
theorem dX8_sums_185 : decode cX8_sums 185 = .ok (.ladd, 1) := by decide +kernel
theorem dX8_sums_186 : decode cX8_sums 186 = .ok (.putfield 137, 3) := by decide +kernel
theorem dX8_sums_189 : decode cX8_sums 189 = .ok (.iinc 4 1, 3) := by decide +kernel
theorem dX8_sums_192 : decode cX8_sums 192 = .ok (.goto (-84), 3) := by decide +kernel
theorem dX8_sums_195 : decode cX8_sums 195 = .ok (.iinc 3 1, 3) := by decide +kernel
theorem dX8_sums_198 : decode cX8_sums 198 = .ok (.goto (-144), 3) := by decide +kernel
theorem dX8_sums_201 : decode cX8_sums 201 = .ok (.aload_n 0, 1) := by decide +kernel
theorem dX8_sums_202 : decode cX8_sums 202 = .ok (.getfield 137, 3) := by decide +kernel
theorem dX8_sums_205 : decode cX8_sums 205 = .ok (.lconst 0, 1) := by decide +kernel
theorem dX8_sums_206 : decode cX8_sums 206 = .ok (.lcmp, 1) := by decide +kernel
theorem dX8_sums_207 : decode cX8_sums 207 = .ok (.ifCond .le 7, 3) := by decide +kernel
theorem dX8_sums_210 : decode cX8_sums 210 = .ok (.iconst 1, 1) := by decide +kernel
theorem dX8_sums_211 : decode cX8_sums 211 = .ok (.goto 4, 3) := by decide +kernel
theorem dX8_sums_214 : decode cX8_sums 214 = .ok (.iconst 0, 1) := by decide +kernel
theorem dX8_sums_215 : decode cX8_sums 215 = .ok (.ireturn, 1) := by decide +kernel
theorem dX8_worthOf_0 : decode cX8_worthOf 0 = .ok (.aload_n 0, 1) := by decide +kernel
theorem dX8_worthOf_1 : decode cX8_worthOf 1 = .ok (.getfield 51, 3) := by decide +kernel
theorem dX8_worthOf_4 : decode cX8_worthOf 4 = .ok (.iload_n 1, 1) := by decide +kernel
theorem dX8_worthOf_5 : decode cX8_worthOf 5 = .ok (.bipush 7, 2) := by decide +kernel
theorem dX8_worthOf_7 : decode cX8_worthOf 7 = .ok (.irem, 1) := by decide +kernel
theorem dX8_worthOf_8 : decode cX8_worthOf 8 = .ok (.laload, 1) := by decide +kernel
theorem dX8_worthOf_9 : decode cX8_worthOf 9 = .ok (.aload_n 0, 1) := by decide +kernel
theorem dX8_worthOf_10 : decode cX8_worthOf 10 = .ok (.getfield 55, 3) := by decide +kernel
theorem dX8_worthOf_13 : decode cX8_worthOf 13 = .ok (.iload_n 1, 1) := by decide +kernel
theorem dX8_worthOf_14 : decode cX8_worthOf 14 = .ok (.bipush 7, 2) := by decide +kernel
theorem dX8_worthOf_16 : decode cX8_worthOf 16 = .ok (.idiv, 1) := by decide +kernel
theorem dX8_worthOf_17 : decode cX8_worthOf 17 = .ok (.laload, 1) := by decide +kernel
theorem dX8_worthOf_18 : decode cX8_worthOf 18 = .ok (.lmul, 1) := by decide +kernel
theorem dX8_worthOf_19 : decode cX8_worthOf 19 = .ok (.lreturn, 1) := by decide +kernel
theorem dX8_isGroup_0 : decode cX8_isGroup 0 = .ok (.iload_n 0, 1) := by decide +kernel
theorem dX8_isGroup_1 : decode cX8_isGroup 1 = .ok (.ifCond .lt 12, 3) := by decide +kernel
theorem dX8_isGroup_4 : decode cX8_isGroup 4 = .ok (.iload_n 0, 1) := by decide +kernel
theorem dX8_isGroup_5 : decode cX8_isGroup 5 = .ok (.iconst 4, 1) := by decide +kernel
theorem dX8_isGroup_6 : decode cX8_isGroup 6 = .ok (.if_icmp .ge 7, 3) := by decide +kernel
theorem dX8_isGroup_9 : decode cX8_isGroup 9 = .ok (.iconst 1, 1) := by decide +kernel
theorem dX8_isGroup_10 : decode cX8_isGroup 10 = .ok (.goto 4, 3) := by decide +kernel
theorem dX8_isGroup_13 : decode cX8_isGroup 13 = .ok (.iconst 0, 1) := by decide +kernel
theorem dX8_isGroup_14 : decode cX8_isGroup 14 = .ok (.ireturn, 1) := by decide +kernel
theorem dX8_posts_0 : decode cX8_posts 0 = .ok (.aload_n 0, 1) := by decide +kernel
theorem dX8_posts_1 : decode cX8_posts 1 = .ok (.iconst 0, 1) := by decide +kernel
theorem dX8_posts_2 : decode cX8_posts 2 = .ok (.putfield 91, 3) := by decide +kernel
theorem dX8_posts_5 : decode cX8_posts 5 = .ok (.iload_n 1, 1) := by decide +kernel
theorem dX8_posts_6 : decode cX8_posts 6 = .ok (.invokestatic 144, 3) := by decide +kernel
theorem dX8_posts_9 : decode cX8_posts 9 = .ok (.ifCond .eq 7, 3) := by decide +kernel
theorem dX8_posts_12 : decode cX8_posts 12 = .ok (.iload_n 2, 1) := by decide +kernel
theorem dX8_posts_13 : decode cX8_posts 13 = .ok (.ifCond .ge 5, 3) := by decide +kernel
theorem dX8_posts_16 : decode cX8_posts 16 = .ok (.iconst (-1), 1) := by decide +kernel
theorem dX8_posts_17 : decode cX8_posts 17 = .ok (.ireturn, 1) := by decide +kernel
theorem dX8_posts_18 : decode cX8_posts 18 = .ok (.aload_n 0, 1) := by decide +kernel
theorem dX8_posts_19 : decode cX8_posts 19 = .ok (.iload_n 2, 1) := by decide +kernel
theorem dX8_posts_20 : decode cX8_posts 20 = .ok (.invokevirtual 134, 3) := by decide +kernel
theorem dX8_posts_23 : decode cX8_posts 23 = .ok (.aload_n 0, 1) := by decide +kernel
theorem dX8_posts_24 : decode cX8_posts 24 = .ok (.iload_n 1, 1) := by decide +kernel
theorem dX8_posts_25 : decode cX8_posts 25 = .ok (.iconst (-1), 1) := by decide +kernel
theorem dX8_posts_26 : decode cX8_posts 26 = .ok (.invokevirtual 147, 3) := by decide +kernel
theorem dX8_posts_29 : decode cX8_posts 29 = .ok (.ifCond .eq 10, 3) := by decide +kernel
theorem dX8_posts_32 : decode cX8_posts 32 = .ok (.aload_n 0, 1) := by decide +kernel
theorem dX8_posts_33 : decode cX8_posts 33 = .ok (.getfield 141, 3) := by decide +kernel
theorem dX8_posts_36 : decode cX8_posts 36 = .ok (.goto 4, 3) := by decide +kernel
theorem dX8_posts_39 : decode cX8_posts 39 = .ok (.iconst 0, 1) := by decide +kernel
theorem dX8_posts_40 : decode cX8_posts 40 = .ok (.ireturn, 1) := by decide +kernel
theorem dX8_worth_0 : decode cX8_worth 0 = .ok (.iload_n 1, 1) := by decide +kernel
theorem dX8_worth_1 : decode cX8_worth 1 = .ok (.invokestatic 144, 3) := by decide +kernel
theorem dX8_worth_4 : decode cX8_worth 4 = .ok (.ifCond .eq 18, 3) := by decide +kernel
theorem dX8_worth_7 : decode cX8_worth 7 = .ok (.iload_n 2, 1) := by decide +kernel
theorem dX8_worth_8 : decode cX8_worth 8 = .ok (.invokestatic 116, 3) := by decide +kernel
theorem dX8_worth_11 : decode cX8_worth 11 = .ok (.ifCond .eq 11, 3) := by decide +kernel
theorem dX8_worth_14 : decode cX8_worth 14 = .ok (.iload_n 3, 1) := by decide +kernel
theorem dX8_worth_15 : decode cX8_worth 15 = .ok (.ifCond .lt 7, 3) := by decide +kernel
theorem dX8_worth_18 : decode cX8_worth 18 = .ok (.iconst 1, 1) := by decide +kernel
theorem dX8_worth_19 : decode cX8_worth 19 = .ok (.goto 4, 3) := by decide +kernel
theorem dX8_worth_22 : decode cX8_worth 22 = .ok (.iconst 0, 1) := by decide +kernel
theorem dX8_worth_23 : decode cX8_worth 23 = .ok (.istore 4, 2) := by decide +kernel
theorem dX8_worth_25 : decode cX8_worth 25 = .ok (.iload 4, 2) := by decide +kernel
theorem dX8_worth_27 : decode cX8_worth 27 = .ok (.ifCond .eq 8, 3) := by decide +kernel
theorem dX8_worth_30 : decode cX8_worth 30 = .ok (.aload_n 0, 1) := by decide +kernel
theorem dX8_worth_31 : decode cX8_worth 31 = .ok (.iload_n 3, 1) := by decide +kernel
theorem dX8_worth_32 : decode cX8_worth 32 = .ok (.invokevirtual 134, 3) := by decide +kernel
theorem dX8_worth_35 : decode cX8_worth 35 = .ok (.aload_n 0, 1) := by decide +kernel
theorem dX8_worth_36 : decode cX8_worth 36 = .ok (.iload 4, 2) := by decide +kernel
theorem dX8_worth_38 : decode cX8_worth 38 = .ok (.ifCond .eq 12, 3) := by decide +kernel
theorem dX8_worth_41 : decode cX8_worth 41 = .ok (.aload_n 0, 1) := by decide +kernel
theorem dX8_worth_42 : decode cX8_worth 42 = .ok (.iload_n 1, 1) := by decide +kernel
theorem dX8_worth_43 : decode cX8_worth 43 = .ok (.iconst (-1), 1) := by decide +kernel
theorem dX8_worth_44 : decode cX8_worth 44 = .ok (.invokevirtual 147, 3) := by decide +kernel
theorem dX8_worth_47 : decode cX8_worth 47 = .ok (.ifCond .ne 7, 3) := by decide +kernel
theorem dX8_worth_50 : decode cX8_worth 50 = .ok (.iconst 1, 1) := by decide +kernel
theorem dX8_worth_51 : decode cX8_worth 51 = .ok (.goto 4, 3) := by decide +kernel
theorem dX8_worth_54 : decode cX8_worth 54 = .ok (.iconst 0, 1) := by decide +kernel
theorem dX8_worth_55 : decode cX8_worth 55 = .ok (.invokevirtual 151, 3) := by decide +kernel
theorem dX8_worth_58 : decode cX8_worth 58 = .ok (.ifCond .eq 5, 3) := by decide +kernel
theorem dX8_worth_61 : decode cX8_worth 61 = .ok (.iconst 0, 1) := by decide +kernel
theorem dX8_worth_62 : decode cX8_worth 62 = .ok (.ireturn, 1) := by decide +kernel
theorem dX8_worth_63 : decode cX8_worth 63 = .ok (.aload_n 0, 1) := by decide +kernel
theorem dX8_worth_64 : decode cX8_worth 64 = .ok (.iload_n 2, 1) := by decide +kernel
theorem dX8_worth_65 : decode cX8_worth 65 = .ok (.invokevirtual 155, 3) := by decide +kernel
theorem dX8_worth_68 : decode cX8_worth 68 = .ok (.l2i, 1) := by decide +kernel
theorem dX8_worth_69 : decode cX8_worth 69 = .ok (.ireturn, 1) := by decide +kernel
theorem dX8_sampleOf_0 : decode cX8_sampleOf 0 = .ok (.iconst 0, 1) := by decide +kernel
theorem dX8_sampleOf_1 : decode cX8_sampleOf 1 = .ok (.istore_n 2, 1) := by decide +kernel
theorem dX8_sampleOf_2 : decode cX8_sampleOf 2 = .ok (.iconst 0, 1) := by decide +kernel
theorem dX8_sampleOf_3 : decode cX8_sampleOf 3 = .ok (.istore_n 3, 1) := by decide +kernel
theorem dX8_sampleOf_4 : decode cX8_sampleOf 4 = .ok (.iload_n 3, 1) := by decide +kernel
theorem dX8_sampleOf_5 : decode cX8_sampleOf 5 = .ok (.bipush 84, 2) := by decide +kernel
theorem dX8_sampleOf_7 : decode cX8_sampleOf 7 = .ok (.if_icmp .ge 46, 3) := by decide +kernel
theorem dX8_sampleOf_10 : decode cX8_sampleOf 10 = .ok (.iload_n 2, 1) := by decide +kernel
theorem dX8_sampleOf_11 : decode cX8_sampleOf 11 = .ok (.bipush 14, 2) := by decide +kernel
theorem dX8_sampleOf_13 : decode cX8_sampleOf 13 = .ok (.if_icmp .ge 40, 3) := by decide +kernel
theorem dX8_sampleOf_16 : decode cX8_sampleOf 16 = .ok (.aload_n 0, 1) := by decide +kernel
theorem dX8_sampleOf_17 : decode cX8_sampleOf 17 = .ok (.getfield 48, 3) := by decide +kernel
theorem dX8_sampleOf_20 : decode cX8_sampleOf 20 = .ok (.iload_n 1, 1) := by decide +kernel
theorem dX8_sampleOf_21 : decode cX8_sampleOf 21 = .ok (.baload, 1) := by decide +kernel
theorem dX8_sampleOf_22 : decode cX8_sampleOf 22 = .ok (.ifCond .ne 31, 3) := by decide +kernel
theorem dX8_sampleOf_25 : decode cX8_sampleOf 25 = .ok (.iload_n 2, 1) := by decide +kernel
theorem dX8_sampleOf_26 : decode cX8_sampleOf 26 = .ok (.aload_n 0, 1) := by decide +kernel
theorem dX8_sampleOf_27 : decode cX8_sampleOf 27 = .ok (.getfield 45, 3) := by decide +kernel
theorem dX8_sampleOf_30 : decode cX8_sampleOf 30 = .ok (.bipush 84, 2) := by decide +kernel
theorem dX8_sampleOf_32 : decode cX8_sampleOf 32 = .ok (.iload_n 1, 1) := by decide +kernel
theorem dX8_sampleOf_33 : decode cX8_sampleOf 33 = .ok (.imul, 1) := by decide +kernel
theorem dX8_sampleOf_34 : decode cX8_sampleOf 34 = .ok (.iload_n 3, 1) := by decide +kernel
theorem dX8_sampleOf_35 : decode cX8_sampleOf 35 = .ok (.iadd, 1) := by decide +kernel
theorem dX8_sampleOf_36 : decode cX8_sampleOf 36 = .ok (.iaload, 1) := by decide +kernel
theorem dX8_sampleOf_37 : decode cX8_sampleOf 37 = .ok (.ifCond .lt 7, 3) := by decide +kernel
theorem dX8_sampleOf_40 : decode cX8_sampleOf 40 = .ok (.iconst 1, 1) := by decide +kernel
theorem dX8_sampleOf_41 : decode cX8_sampleOf 41 = .ok (.goto 4, 3) := by decide +kernel
theorem dX8_sampleOf_44 : decode cX8_sampleOf 44 = .ok (.iconst 0, 1) := by decide +kernel
theorem dX8_sampleOf_45 : decode cX8_sampleOf 45 = .ok (.iadd, 1) := by decide +kernel
theorem dX8_sampleOf_46 : decode cX8_sampleOf 46 = .ok (.istore_n 2, 1) := by decide +kernel
theorem dX8_sampleOf_47 : decode cX8_sampleOf 47 = .ok (.iinc 3 1, 3) := by decide +kernel
theorem dX8_sampleOf_50 : decode cX8_sampleOf 50 = .ok (.goto (-46), 3) := by decide +kernel
theorem dX8_sampleOf_53 : decode cX8_sampleOf 53 = .ok (.iload_n 2, 1) := by decide +kernel
theorem dX8_sampleOf_54 : decode cX8_sampleOf 54 = .ok (.ireturn, 1) := by decide +kernel
theorem dX8_sample_0 : decode cX8_sample 0 = .ok (.aload_n 0, 1) := by decide +kernel
theorem dX8_sample_1 : decode cX8_sample 1 = .ok (.iconst 0, 1) := by decide +kernel
theorem dX8_sample_2 : decode cX8_sample 2 = .ok (.putfield 91, 3) := by decide +kernel
theorem dX8_sample_5 : decode cX8_sample 5 = .ok (.aload_n 0, 1) := by decide +kernel
theorem dX8_sample_6 : decode cX8_sample 6 = .ok (.iload_n 1, 1) := by decide +kernel
theorem dX8_sample_7 : decode cX8_sample 7 = .ok (.invokevirtual 112, 3) := by decide +kernel
theorem dX8_sample_10 : decode cX8_sample 10 = .ok (.ifCond .eq 7, 3) := by decide +kernel
theorem dX8_sample_13 : decode cX8_sample 13 = .ok (.iload_n 2, 1) := by decide +kernel
theorem dX8_sample_14 : decode cX8_sample 14 = .ok (.ifCond .ge 5, 3) := by decide +kernel
theorem dX8_sample_17 : decode cX8_sample 17 = .ok (.iconst (-1), 1) := by decide +kernel
theorem dX8_sample_18 : decode cX8_sample 18 = .ok (.ireturn, 1) := by decide +kernel
theorem dX8_sample_19 : decode cX8_sample 19 = .ok (.aload_n 0, 1) := by decide +kernel
theorem dX8_sample_20 : decode cX8_sample 20 = .ok (.iload_n 2, 1) := by decide +kernel
theorem dX8_sample_21 : decode cX8_sample 21 = .ok (.invokevirtual 134, 3) := by decide +kernel
theorem dX8_sample_24 : decode cX8_sample 24 = .ok (.aload_n 0, 1) := by decide +kernel
theorem dX8_sample_25 : decode cX8_sample 25 = .ok (.iload_n 1, 1) := by decide +kernel
theorem dX8_sample_26 : decode cX8_sample 26 = .ok (.invokevirtual 159, 3) := by decide +kernel
theorem dX8_sample_29 : decode cX8_sample 29 = .ok (.ireturn, 1) := by decide +kernel
theorem dX8_fits_0 : decode cX8_fits 0 = .ok (.aload_n 0, 1) := by decide +kernel
theorem dX8_fits_1 : decode cX8_fits 1 = .ok (.lconst 0, 1) := by decide +kernel
theorem dX8_fits_2 : decode cX8_fits 2 = .ok (.putfield 162, 3) := by decide +kernel
theorem dX8_fits_5 : decode cX8_fits 5 = .ok (.aload_n 0, 1) := by decide +kernel
theorem dX8_fits_6 : decode cX8_fits 6 = .ok (.lconst 0, 1) := by decide +kernel
theorem dX8_fits_7 : decode cX8_fits 7 = .ok (.putfield 165, 3) := by decide +kernel
theorem dX8_fits_10 : decode cX8_fits 10 = .ok (.iconst 0, 1) := by decide +kernel
theorem dX8_fits_11 : decode cX8_fits 11 = .ok (.istore_n 3, 1) := by decide +kernel
theorem dX8_fits_12 : decode cX8_fits 12 = .ok (.iconst 0, 1) := by decide +kernel
theorem dX8_fits_13 : decode cX8_fits 13 = .ok (.istore 4, 2) := by decide +kernel
theorem dX8_fits_15 : decode cX8_fits 15 = .ok (.iload 4, 2) := by decide +kernel
theorem dX8_fits_17 : decode cX8_fits 17 = .ok (.bipush 84, 2) := by decide +kernel
theorem dX8_fits_19 : decode cX8_fits 19 = .ok (.if_icmp .ge 80, 3) := by decide +kernel
theorem dX8_fits_22 : decode cX8_fits 22 = .ok (.iload_n 3, 1) := by decide +kernel
theorem dX8_fits_23 : decode cX8_fits 23 = .ok (.iload_n 2, 1) := by decide +kernel
theorem dX8_fits_24 : decode cX8_fits 24 = .ok (.if_icmp .ge 75, 3) := by decide +kernel
theorem dX8_fits_27 : decode cX8_fits 27 = .ok (.aload_n 0, 1) := by decide +kernel
theorem dX8_fits_28 : decode cX8_fits 28 = .ok (.getfield 45, 3) := by decide +kernel
theorem dX8_fits_31 : decode cX8_fits 31 = .ok (.bipush 84, 2) := by decide +kernel
theorem dX8_fits_33 : decode cX8_fits 33 = .ok (.iload_n 1, 1) := by decide +kernel
theorem dX8_fits_34 : decode cX8_fits 34 = .ok (.imul, 1) := by decide +kernel
theorem dX8_fits_35 : decode cX8_fits 35 = .ok (.iload 4, 2) := by decide +kernel
theorem dX8_fits_37 : decode cX8_fits 37 = .ok (.iadd, 1) := by decide +kernel
theorem dX8_fits_38 : decode cX8_fits 38 = .ok (.iaload, 1) := by decide +kernel
theorem dX8_fits_39 : decode cX8_fits 39 = .ok (.istore 5, 2) := by decide +kernel
theorem dX8_fits_41 : decode cX8_fits 41 = .ok (.iload 5, 2) := by decide +kernel
theorem dX8_fits_43 : decode cX8_fits 43 = .ok (.ifCond .ge 6, 3) := by decide +kernel
theorem dX8_fits_46 : decode cX8_fits 46 = .ok (.goto 47, 3) := by decide +kernel
theorem dX8_fits_49 : decode cX8_fits 49 = .ok (.iinc 3 1, 3) := by decide +kernel
theorem dX8_fits_52 : decode cX8_fits 52 = .ok (.aload_n 0, 1) := by decide +kernel
theorem dX8_fits_53 : decode cX8_fits 53 = .ok (.dup, 1) := by decide +kernel
theorem dX8_fits_54 : decode cX8_fits 54 = .ok (.getfield 162, 3) := by decide +kernel
theorem dX8_fits_57 : decode cX8_fits 57 = .ok (.iload 5, 2) := by decide +kernel
theorem dX8_fits_59 : decode cX8_fits 59 = .ok (.i2l, 1) := by decide +kernel
theorem dX8_fits_60 : decode cX8_fits 60 = .ok (.aload_n 0, 1) := by decide +kernel
theorem dX8_fits_61 : decode cX8_fits 61 = .ok (.iload 4, 2) := by decide +kernel
theorem dX8_fits_63 : decode cX8_fits 63 = .ok (.invokevirtual 155, 3) := by decide +kernel
theorem dX8_fits_66 : decode cX8_fits 66 = .ok (.lmul, 1) := by decide +kernel
theorem dX8_fits_67 : decode cX8_fits 67 = .ok (.ladd, 1) := by decide +kernel
theorem dX8_fits_68 : decode cX8_fits 68 = .ok (.putfield 162, 3) := by decide +kernel
theorem dX8_fits_71 : decode cX8_fits 71 = .ok (.aload_n 0, 1) := by decide +kernel
theorem dX8_fits_72 : decode cX8_fits 72 = .ok (.dup, 1) := by decide +kernel
theorem dX8_fits_73 : decode cX8_fits 73 = .ok (.getfield 165, 3) := by decide +kernel
theorem dX8_fits_76 : decode cX8_fits 76 = .ok (.aload_n 0, 1) := by decide +kernel
theorem dX8_fits_77 : decode cX8_fits 77 = .ok (.iload 4, 2) := by decide +kernel
theorem dX8_fits_79 : decode cX8_fits 79 = .ok (.invokevirtual 155, 3) := by decide +kernel
theorem dX8_fits_82 : decode cX8_fits 82 = .ok (.aload_n 0, 1) := by decide +kernel
theorem dX8_fits_83 : decode cX8_fits 83 = .ok (.iload 4, 2) := by decide +kernel
theorem dX8_fits_85 : decode cX8_fits 85 = .ok (.invokevirtual 155, 3) := by decide +kernel
theorem dX8_fits_88 : decode cX8_fits 88 = .ok (.lmul, 1) := by decide +kernel
theorem dX8_fits_89 : decode cX8_fits 89 = .ok (.ladd, 1) := by decide +kernel
theorem dX8_fits_90 : decode cX8_fits 90 = .ok (.putfield 165, 3) := by decide +kernel
theorem dX8_fits_93 : decode cX8_fits 93 = .ok (.iinc 4 1, 3) := by decide +kernel
theorem dX8_fits_96 : decode cX8_fits 96 = .ok (.goto (-81), 3) := by decide +kernel
theorem dX8_fits_99 : decode cX8_fits 99 = .ok (.aload_n 0, 1) := by decide +kernel
theorem dX8_fits_100 : decode cX8_fits 100 = .ok (.getfield 165, 3) := by decide +kernel
theorem dX8_fits_103 : decode cX8_fits 103 = .ok (.lconst 0, 1) := by decide +kernel
theorem dX8_fits_104 : decode cX8_fits 104 = .ok (.lcmp, 1) := by decide +kernel
theorem dX8_fits_105 : decode cX8_fits 105 = .ok (.ifCond .le 7, 3) := by decide +kernel
theorem dX8_fits_108 : decode cX8_fits 108 = .ok (.iconst 1, 1) := by decide +kernel
theorem dX8_fits_109 : decode cX8_fits 109 = .ok (.goto 4, 3) := by decide +kernel
theorem dX8_fits_112 : decode cX8_fits 112 = .ok (.iconst 0, 1) := by decide +kernel
theorem dX8_fits_113 : decode cX8_fits 113 = .ok (.ireturn, 1) := by decide +kernel
theorem dX8_isLess_0 : decode cX8_isLess 0 = .ok (.lload_n 0, 1) := by decide +kernel
