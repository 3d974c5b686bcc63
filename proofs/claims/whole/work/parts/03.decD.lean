theorem dX8_isLess_1 : decode cX8_isLess 1 = .ok (.lstore 8, 2) := by decide +kernel
theorem dX8_isLess_3 : decode cX8_isLess 3 = .ok (.lload_n 2, 1) := by decide +kernel
theorem dX8_isLess_4 : decode cX8_isLess 4 = .ok (.lstore 10, 2) := by decide +kernel
theorem dX8_isLess_6 : decode cX8_isLess 6 = .ok (.lload 4, 2) := by decide +kernel
theorem dX8_isLess_8 : decode cX8_isLess 8 = .ok (.lstore 12, 2) := by decide +kernel
theorem dX8_isLess_10 : decode cX8_isLess 10 = .ok (.lload 6, 2) := by decide +kernel
theorem dX8_isLess_12 : decode cX8_isLess 12 = .ok (.lstore 14, 2) := by decide +kernel
theorem dX8_isLess_14 : decode cX8_isLess 14 = .ok (.iconst 0, 1) := by decide +kernel
theorem dX8_isLess_15 : decode cX8_isLess 15 = .ok (.istore 16, 2) := by decide +kernel
theorem dX8_isLess_17 : decode cX8_isLess 17 = .ok (.lload 8, 2) := by decide +kernel
theorem dX8_isLess_19 : decode cX8_isLess 19 = .ok (.lload 10, 2) := by decide +kernel
theorem dX8_isLess_21 : decode cX8_isLess 21 = .ok (.ldiv, 1) := by decide +kernel
theorem dX8_isLess_22 : decode cX8_isLess 22 = .ok (.lstore 17, 2) := by decide +kernel
theorem dX8_isLess_24 : decode cX8_isLess 24 = .ok (.lload 12, 2) := by decide +kernel
theorem dX8_isLess_26 : decode cX8_isLess 26 = .ok (.lload 14, 2) := by decide +kernel
theorem dX8_isLess_28 : decode cX8_isLess 28 = .ok (.ldiv, 1) := by decide +kernel
theorem dX8_isLess_29 : decode cX8_isLess 29 = .ok (.lstore 19, 2) := by decide +kernel
theorem dX8_isLess_31 : decode cX8_isLess 31 = .ok (.lload 17, 2) := by decide +kernel
theorem dX8_isLess_33 : decode cX8_isLess 33 = .ok (.lload 19, 2) := by decide +kernel
theorem dX8_isLess_35 : decode cX8_isLess 35 = .ok (.lcmp, 1) := by decide +kernel
theorem dX8_isLess_36 : decode cX8_isLess 36 = .ok (.ifCond .eq 27, 3) := by decide +kernel
theorem dX8_isLess_39 : decode cX8_isLess 39 = .ok (.lload 17, 2) := by decide +kernel
theorem dX8_isLess_41 : decode cX8_isLess 41 = .ok (.lload 19, 2) := by decide +kernel
theorem dX8_isLess_43 : decode cX8_isLess 43 = .ok (.lcmp, 1) := by decide +kernel
theorem dX8_isLess_44 : decode cX8_isLess 44 = .ok (.ifCond .ge 7, 3) := by decide +kernel
theorem dX8_isLess_47 : decode cX8_isLess 47 = .ok (.iconst 1, 1) := by decide +kernel
theorem dX8_isLess_48 : decode cX8_isLess 48 = .ok (.goto 4, 3) := by decide +kernel
theorem dX8_isLess_51 : decode cX8_isLess 51 = .ok (.iconst 0, 1) := by decide +kernel
theorem dX8_isLess_52 : decode cX8_isLess 52 = .ok (.iload 16, 2) := by decide +kernel
theorem dX8_isLess_54 : decode cX8_isLess 54 = .ok (.if_icmp .eq 7, 3) := by decide +kernel
theorem dX8_isLess_57 : decode cX8_isLess 57 = .ok (.iconst 1, 1) := by decide +kernel
theorem dX8_isLess_58 : decode cX8_isLess 58 = .ok (.goto 4, 3) := by decide +kernel
theorem dX8_isLess_61 : decode cX8_isLess 61 = .ok (.iconst 0, 1) := by decide +kernel
theorem dX8_isLess_62 : decode cX8_isLess 62 = .ok (.ireturn, 1) := by decide +kernel
theorem dX8_isLess_63 : decode cX8_isLess 63 = .ok (.lload 8, 2) := by decide +kernel
theorem dX8_isLess_65 : decode cX8_isLess 65 = .ok (.lload 10, 2) := by decide +kernel
theorem dX8_isLess_67 : decode cX8_isLess 67 = .ok (.lrem, 1) := by decide +kernel
theorem dX8_isLess_68 : decode cX8_isLess 68 = .ok (.lstore 8, 2) := by decide +kernel
theorem dX8_isLess_70 : decode cX8_isLess 70 = .ok (.lload 12, 2) := by decide +kernel
theorem dX8_isLess_72 : decode cX8_isLess 72 = .ok (.lload 14, 2) := by decide +kernel
theorem dX8_isLess_74 : decode cX8_isLess 74 = .ok (.lrem, 1) := by decide +kernel
theorem dX8_isLess_75 : decode cX8_isLess 75 = .ok (.lstore 12, 2) := by decide +kernel
theorem dX8_isLess_77 : decode cX8_isLess 77 = .ok (.lload 8, 2) := by decide +kernel
theorem dX8_isLess_79 : decode cX8_isLess 79 = .ok (.lconst 0, 1) := by decide +kernel
theorem dX8_isLess_80 : decode cX8_isLess 80 = .ok (.lcmp, 1) := by decide +kernel
theorem dX8_isLess_81 : decode cX8_isLess 81 = .ok (.ifCond .eq 10, 3) := by decide +kernel
theorem dX8_isLess_84 : decode cX8_isLess 84 = .ok (.lload 12, 2) := by decide +kernel
theorem dX8_isLess_86 : decode cX8_isLess 86 = .ok (.lconst 0, 1) := by decide +kernel
theorem dX8_isLess_87 : decode cX8_isLess 87 = .ok (.lcmp, 1) := by decide +kernel
theorem dX8_isLess_88 : decode cX8_isLess 88 = .ok (.ifCond .ne 34, 3) := by decide +kernel
theorem dX8_isLess_91 : decode cX8_isLess 91 = .ok (.lload 8, 2) := by decide +kernel
theorem dX8_isLess_93 : decode cX8_isLess 93 = .ok (.lload 12, 2) := by decide +kernel
theorem dX8_isLess_95 : decode cX8_isLess 95 = .ok (.lcmp, 1) := by decide +kernel
theorem dX8_isLess_96 : decode cX8_isLess 96 = .ok (.ifCond .eq 24, 3) := by decide +kernel
theorem dX8_isLess_99 : decode cX8_isLess 99 = .ok (.lload 8, 2) := by decide +kernel
theorem dX8_isLess_101 : decode cX8_isLess 101 = .ok (.lconst 0, 1) := by decide +kernel
theorem dX8_isLess_102 : decode cX8_isLess 102 = .ok (.lcmp, 1) := by decide +kernel
theorem dX8_isLess_103 : decode cX8_isLess 103 = .ok (.ifCond .ne 7, 3) := by decide +kernel
theorem dX8_isLess_106 : decode cX8_isLess 106 = .ok (.iconst 1, 1) := by decide +kernel
theorem dX8_isLess_107 : decode cX8_isLess 107 = .ok (.goto 4, 3) := by decide +kernel
theorem dX8_isLess_110 : decode cX8_isLess 110 = .ok (.iconst 0, 1) := by decide +kernel
theorem dX8_isLess_111 : decode cX8_isLess 111 = .ok (.iload 16, 2) := by decide +kernel
theorem dX8_isLess_113 : decode cX8_isLess 113 = .ok (.if_icmp .eq 7, 3) := by decide +kernel
theorem dX8_isLess_116 : decode cX8_isLess 116 = .ok (.iconst 1, 1) := by decide +kernel
theorem dX8_isLess_117 : decode cX8_isLess 117 = .ok (.goto 4, 3) := by decide +kernel
theorem dX8_isLess_120 : decode cX8_isLess 120 = .ok (.iconst 0, 1) := by decide +kernel
theorem dX8_isLess_121 : decode cX8_isLess 121 = .ok (.ireturn, 1) := by decide +kernel
theorem dX8_isLess_122 : decode cX8_isLess 122 = .ok (.lload 8, 2) := by decide +kernel
theorem dX8_isLess_124 : decode cX8_isLess 124 = .ok (.lstore 21, 2) := by decide +kernel
theorem dX8_isLess_126 : decode cX8_isLess 126 = .ok (.lload 10, 2) := by decide +kernel
theorem dX8_isLess_128 : decode cX8_isLess 128 = .ok (.lstore 8, 2) := by decide +kernel
theorem dX8_isLess_130 : decode cX8_isLess 130 = .ok (.lload 21, 2) := by decide +kernel
theorem dX8_isLess_132 : decode cX8_isLess 132 = .ok (.lstore 10, 2) := by decide +kernel
theorem dX8_isLess_134 : decode cX8_isLess 134 = .ok (.lload 12, 2) := by decide +kernel
theorem dX8_isLess_136 : decode cX8_isLess 136 = .ok (.lstore 21, 2) := by decide +kernel
theorem dX8_isLess_138 : decode cX8_isLess 138 = .ok (.lload 14, 2) := by decide +kernel
theorem dX8_isLess_140 : decode cX8_isLess 140 = .ok (.lstore 12, 2) := by decide +kernel
theorem dX8_isLess_142 : decode cX8_isLess 142 = .ok (.lload 21, 2) := by decide +kernel
theorem dX8_isLess_144 : decode cX8_isLess 144 = .ok (.lstore 14, 2) := by decide +kernel
theorem dX8_isLess_146 : decode cX8_isLess 146 = .ok (.iload 16, 2) := by decide +kernel
theorem dX8_isLess_148 : decode cX8_isLess 148 = .ok (.ifCond .ne 7, 3) := by decide +kernel
theorem dX8_isLess_151 : decode cX8_isLess 151 = .ok (.iconst 1, 1) := by decide +kernel
theorem dX8_isLess_152 : decode cX8_isLess 152 = .ok (.goto 4, 3) := by decide +kernel
theorem dX8_isLess_155 : decode cX8_isLess 155 = .ok (.iconst 0, 1) := by decide +kernel
theorem dX8_isLess_156 : decode cX8_isLess 156 = .ok (.istore 16, 2) := by decide +kernel
theorem dX8_isLess_158 : decode cX8_isLess 158 = .ok (.goto (-141), 3) := by decide +kernel
theorem dX8_fitAll_0 : decode cX8_fitAll 0 = .ok (.aload_n 0, 1) := by decide +kernel
theorem dX8_fitAll_1 : decode cX8_fitAll 1 = .ok (.iload_n 1, 1) := by decide +kernel
theorem dX8_fitAll_2 : decode cX8_fitAll 2 = .ok (.invokevirtual 159, 3) := by decide +kernel
theorem dX8_fitAll_5 : decode cX8_fitAll 5 = .ok (.istore_n 2, 1) := by decide +kernel
theorem dX8_fitAll_6 : decode cX8_fitAll 6 = .ok (.iconst 0, 1) := by decide +kernel
theorem dX8_fitAll_7 : decode cX8_fitAll 7 = .ok (.istore_n 3, 1) := by decide +kernel
theorem dX8_fitAll_8 : decode cX8_fitAll 8 = .ok (.iconst 0, 1) := by decide +kernel
theorem dX8_fitAll_9 : decode cX8_fitAll 9 = .ok (.istore 4, 2) := by decide +kernel
theorem dX8_fitAll_11 : decode cX8_fitAll 11 = .ok (.iload 4, 2) := by decide +kernel
theorem dX8_fitAll_13 : decode cX8_fitAll 13 = .ok (.iconst 4, 1) := by decide +kernel
theorem dX8_fitAll_14 : decode cX8_fitAll 14 = .ok (.if_icmp .ge 161, 3) := by decide +kernel
theorem dX8_fitAll_17 : decode cX8_fitAll 17 = .ok (.iload_n 2, 1) := by decide +kernel
theorem dX8_fitAll_18 : decode cX8_fitAll 18 = .ok (.ifCond .le 157, 3) := by decide +kernel
theorem dX8_fitAll_21 : decode cX8_fitAll 21 = .ok (.aload_n 0, 1) := by decide +kernel
theorem dX8_fitAll_22 : decode cX8_fitAll 22 = .ok (.iload 4, 2) := by decide +kernel
theorem dX8_fitAll_24 : decode cX8_fitAll 24 = .ok (.iconst (-1), 1) := by decide +kernel
theorem dX8_fitAll_25 : decode cX8_fitAll 25 = .ok (.invokevirtual 147, 3) := by decide +kernel
theorem dX8_fitAll_28 : decode cX8_fitAll 28 = .ok (.ifCond .eq 141, 3) := by decide +kernel
theorem dX8_fitAll_31 : decode cX8_fitAll 31 = .ok (.aload_n 0, 1) := by decide +kernel
theorem dX8_fitAll_32 : decode cX8_fitAll 32 = .ok (.iload_n 1, 1) := by decide +kernel
theorem dX8_fitAll_33 : decode cX8_fitAll 33 = .ok (.iload_n 2, 1) := by decide +kernel
theorem dX8_fitAll_34 : decode cX8_fitAll 34 = .ok (.invokevirtual 168, 3) := by decide +kernel
theorem dX8_fitAll_37 : decode cX8_fitAll 37 = .ok (.ifCond .ne 6, 3) := by decide +kernel
theorem dX8_fitAll_40 : decode cX8_fitAll 40 = .ok (.goto 129, 3) := by decide +kernel
theorem dX8_fitAll_43 : decode cX8_fitAll 43 = .ok (.aload_n 0, 1) := by decide +kernel
theorem dX8_fitAll_44 : decode cX8_fitAll 44 = .ok (.getfield 61, 3) := by decide +kernel
theorem dX8_fitAll_47 : decode cX8_fitAll 47 = .ok (.iload 4, 2) := by decide +kernel
theorem dX8_fitAll_49 : decode cX8_fitAll 49 = .ok (.aload_n 0, 1) := by decide +kernel
theorem dX8_fitAll_50 : decode cX8_fitAll 50 = .ok (.getfield 162, 3) := by decide +kernel
theorem dX8_fitAll_53 : decode cX8_fitAll 53 = .ok (.lastore, 1) := by decide +kernel
theorem dX8_fitAll_54 : decode cX8_fitAll 54 = .ok (.aload_n 0, 1) := by decide +kernel
theorem dX8_fitAll_55 : decode cX8_fitAll 55 = .ok (.getfield 64, 3) := by decide +kernel
theorem dX8_fitAll_58 : decode cX8_fitAll 58 = .ok (.iload 4, 2) := by decide +kernel
theorem dX8_fitAll_60 : decode cX8_fitAll 60 = .ok (.aload_n 0, 1) := by decide +kernel
theorem dX8_fitAll_61 : decode cX8_fitAll 61 = .ok (.getfield 165, 3) := by decide +kernel
theorem dX8_fitAll_64 : decode cX8_fitAll 64 = .ok (.lastore, 1) := by decide +kernel
theorem dX8_fitAll_65 : decode cX8_fitAll 65 = .ok (.iload_n 3, 1) := by decide +kernel
theorem dX8_fitAll_66 : decode cX8_fitAll 66 = .ok (.istore 5, 2) := by decide +kernel
theorem dX8_fitAll_68 : decode cX8_fitAll 68 = .ok (.iload 5, 2) := by decide +kernel
theorem dX8_fitAll_70 : decode cX8_fitAll 70 = .ok (.ifCond .le 87, 3) := by decide +kernel
theorem dX8_fitAll_73 : decode cX8_fitAll 73 = .ok (.aload_n 0, 1) := by decide +kernel
theorem dX8_fitAll_74 : decode cX8_fitAll 74 = .ok (.getfield 61, 3) := by decide +kernel
theorem dX8_fitAll_77 : decode cX8_fitAll 77 = .ok (.aload_n 0, 1) := by decide +kernel
theorem dX8_fitAll_78 : decode cX8_fitAll 78 = .ok (.getfield 58, 3) := by decide +kernel
theorem dX8_fitAll_81 : decode cX8_fitAll 81 = .ok (.iload 5, 2) := by decide +kernel
theorem dX8_fitAll_83 : decode cX8_fitAll 83 = .ok (.iconst 1, 1) := by decide +kernel
theorem dX8_fitAll_84 : decode cX8_fitAll 84 = .ok (.isub, 1) := by decide +kernel
theorem dX8_fitAll_85 : decode cX8_fitAll 85 = .ok (.iaload, 1) := by decide +kernel
theorem dX8_fitAll_86 : decode cX8_fitAll 86 = .ok (.laload, 1) := by decide +kernel
theorem dX8_fitAll_87 : decode cX8_fitAll 87 = .ok (.aload_n 0, 1) := by decide +kernel
theorem dX8_fitAll_88 : decode cX8_fitAll 88 = .ok (.getfield 61, 3) := by decide +kernel
theorem dX8_fitAll_91 : decode cX8_fitAll 91 = .ok (.aload_n 0, 1) := by decide +kernel
theorem dX8_fitAll_92 : decode cX8_fitAll 92 = .ok (.getfield 58, 3) := by decide +kernel
theorem dX8_fitAll_95 : decode cX8_fitAll 95 = .ok (.iload 5, 2) := by decide +kernel
theorem dX8_fitAll_97 : decode cX8_fitAll 97 = .ok (.iconst 1, 1) := by decide +kernel
theorem dX8_fitAll_98 : decode cX8_fitAll 98 = .ok (.isub, 1) := by decide +kernel
theorem dX8_fitAll_99 : decode cX8_fitAll 99 = .ok (.iaload, 1) := by decide +kernel
theorem dX8_fitAll_100 : decode cX8_fitAll 100 = .ok (.laload, 1) := by decide +kernel
theorem dX8_fitAll_101 : decode cX8_fitAll 101 = .ok (.lmul, 1) := by decide +kernel
theorem dX8_fitAll_102 : decode cX8_fitAll 102 = .ok (.aload_n 0, 1) := by decide +kernel
theorem dX8_fitAll_103 : decode cX8_fitAll 103 = .ok (.getfield 64, 3) := by decide +kernel
theorem dX8_fitAll_106 : decode cX8_fitAll 106 = .ok (.aload_n 0, 1) := by decide +kernel
theorem dX8_fitAll_107 : decode cX8_fitAll 107 = .ok (.getfield 58, 3) := by decide +kernel
theorem dX8_fitAll_110 : decode cX8_fitAll 110 = .ok (.iload 5, 2) := by decide +kernel
theorem dX8_fitAll_112 : decode cX8_fitAll 112 = .ok (.iconst 1, 1) := by decide +kernel
theorem dX8_fitAll_113 : decode cX8_fitAll 113 = .ok (.isub, 1) := by decide +kernel
theorem dX8_fitAll_114 : decode cX8_fitAll 114 = .ok (.iaload, 1) := by decide +kernel
theorem dX8_fitAll_115 : decode cX8_fitAll 115 = .ok (.laload, 1) := by decide +kernel
theorem dX8_fitAll_116 : decode cX8_fitAll 116 = .ok (.aload_n 0, 1) := by decide +kernel
theorem dX8_fitAll_117 : decode cX8_fitAll 117 = .ok (.getfield 162, 3) := by decide +kernel
theorem dX8_fitAll_120 : decode cX8_fitAll 120 = .ok (.aload_n 0, 1) := by decide +kernel
theorem dX8_fitAll_121 : decode cX8_fitAll 121 = .ok (.getfield 162, 3) := by decide +kernel
theorem dX8_fitAll_124 : decode cX8_fitAll 124 = .ok (.lmul, 1) := by decide +kernel
theorem dX8_fitAll_125 : decode cX8_fitAll 125 = .ok (.aload_n 0, 1) := by decide +kernel
theorem dX8_fitAll_126 : decode cX8_fitAll 126 = .ok (.getfield 165, 3) := by decide +kernel
theorem dX8_fitAll_129 : decode cX8_fitAll 129 = .ok (.invokestatic 171, 3) := by decide +kernel
theorem dX8_fitAll_132 : decode cX8_fitAll 132 = .ok (.ifCond .eq 25, 3) := by decide +kernel
theorem dX8_fitAll_135 : decode cX8_fitAll 135 = .ok (.aload_n 0, 1) := by decide +kernel
theorem dX8_fitAll_136 : decode cX8_fitAll 136 = .ok (.getfield 58, 3) := by decide +kernel
theorem dX8_fitAll_139 : decode cX8_fitAll 139 = .ok (.iload 5, 2) := by decide +kernel
theorem dX8_fitAll_141 : decode cX8_fitAll 141 = .ok (.aload_n 0, 1) := by decide +kernel
theorem dX8_fitAll_142 : decode cX8_fitAll 142 = .ok (.getfield 58, 3) := by decide +kernel
theorem dX8_fitAll_145 : decode cX8_fitAll 145 = .ok (.iload 5, 2) := by decide +kernel
theorem dX8_fitAll_147 : decode cX8_fitAll 147 = .ok (.iconst 1, 1) := by decide +kernel
theorem dX8_fitAll_148 : decode cX8_fitAll 148 = .ok (.isub, 1) := by decide +kernel
theorem dX8_fitAll_149 : decode cX8_fitAll 149 = .ok (.iaload, 1) := by decide +kernel
theorem dX8_fitAll_150 : decode cX8_fitAll 150 = .ok (.iastore, 1) := by decide +kernel
theorem dX8_fitAll_151 : decode cX8_fitAll 151 = .ok (.iinc 5 (-1), 3) := by decide +kernel
theorem dX8_fitAll_154 : decode cX8_fitAll 154 = .ok (.goto (-86), 3) := by decide +kernel
theorem dX8_fitAll_157 : decode cX8_fitAll 157 = .ok (.aload_n 0, 1) := by decide +kernel
theorem dX8_fitAll_158 : decode cX8_fitAll 158 = .ok (.getfield 58, 3) := by decide +kernel
theorem dX8_fitAll_161 : decode cX8_fitAll 161 = .ok (.iload 5, 2) := by decide +kernel
theorem dX8_fitAll_163 : decode cX8_fitAll 163 = .ok (.iload 4, 2) := by decide +kernel
theorem dX8_fitAll_165 : decode cX8_fitAll 165 = .ok (.iastore, 1) := by decide +kernel
theorem dX8_fitAll_166 : decode cX8_fitAll 166 = .ok (.iinc 3 1, 3) := by decide +kernel
theorem dX8_fitAll_169 : decode cX8_fitAll 169 = .ok (.iinc 4 1, 3) := by decide +kernel
theorem dX8_fitAll_172 : decode cX8_fitAll 172 = .ok (.goto (-161), 3) := by decide +kernel
theorem dX8_fitAll_175 : decode cX8_fitAll 175 = .ok (.iload_n 3, 1) := by decide +kernel
theorem dX8_fitAll_176 : decode cX8_fitAll 176 = .ok (.ireturn, 1) := by decide +kernel
theorem dX8_fit_0 : decode cX8_fit 0 = .ok (.aload_n 0, 1) := by decide +kernel
theorem dX8_fit_1 : decode cX8_fit 1 = .ok (.iconst 0, 1) := by decide +kernel
theorem dX8_fit_2 : decode cX8_fit 2 = .ok (.putfield 91, 3) := by decide +kernel
theorem dX8_fit_5 : decode cX8_fit 5 = .ok (.aload_n 0, 1) := by decide +kernel
theorem dX8_fit_6 : decode cX8_fit 6 = .ok (.iload_n 1, 1) := by decide +kernel
theorem dX8_fit_7 : decode cX8_fit 7 = .ok (.invokevirtual 112, 3) := by decide +kernel
theorem dX8_fit_10 : decode cX8_fit 10 = .ok (.ifCond .eq 11, 3) := by decide +kernel
theorem dX8_fit_13 : decode cX8_fit 13 = .ok (.iload_n 3, 1) := by decide +kernel
theorem dX8_fit_14 : decode cX8_fit 14 = .ok (.ifCond .lt 7, 3) := by decide +kernel
theorem dX8_fit_17 : decode cX8_fit 17 = .ok (.iload_n 2, 1) := by decide +kernel
theorem dX8_fit_18 : decode cX8_fit 18 = .ok (.ifCond .ge 5, 3) := by decide +kernel
theorem dX8_fit_21 : decode cX8_fit 21 = .ok (.iconst (-1), 1) := by decide +kernel
theorem dX8_fit_22 : decode cX8_fit 22 = .ok (.ireturn, 1) := by decide +kernel
theorem dX8_fit_23 : decode cX8_fit 23 = .ok (.aload_n 0, 1) := by decide +kernel
theorem dX8_fit_24 : decode cX8_fit 24 = .ok (.iload_n 3, 1) := by decide +kernel
theorem dX8_fit_25 : decode cX8_fit 25 = .ok (.invokevirtual 134, 3) := by decide +kernel
theorem dX8_fit_28 : decode cX8_fit 28 = .ok (.iload_n 2, 1) := by decide +kernel
theorem dX8_fit_29 : decode cX8_fit 29 = .ok (.aload_n 0, 1) := by decide +kernel
theorem dX8_fit_30 : decode cX8_fit 30 = .ok (.iload_n 1, 1) := by decide +kernel
theorem dX8_fit_31 : decode cX8_fit 31 = .ok (.invokevirtual 175, 3) := by decide +kernel
theorem dX8_fit_34 : decode cX8_fit 34 = .ok (.if_icmp .ge 12, 3) := by decide +kernel
theorem dX8_fit_37 : decode cX8_fit 37 = .ok (.aload_n 0, 1) := by decide +kernel
theorem dX8_fit_38 : decode cX8_fit 38 = .ok (.getfield 58, 3) := by decide +kernel
theorem dX8_fit_41 : decode cX8_fit 41 = .ok (.iload_n 2, 1) := by decide +kernel
theorem dX8_fit_42 : decode cX8_fit 42 = .ok (.iaload, 1) := by decide +kernel
theorem dX8_fit_43 : decode cX8_fit 43 = .ok (.goto 4, 3) := by decide +kernel
theorem dX8_fit_46 : decode cX8_fit 46 = .ok (.iconst (-1), 1) := by decide +kernel
theorem dX8_fit_47 : decode cX8_fit 47 = .ok (.ireturn, 1) := by decide +kernel
theorem dX8_common_0 : decode cX8_common 0 = .ok (.lload_n 0, 1) := by decide +kernel
theorem dX8_common_1 : decode cX8_common 1 = .ok (.lconst 0, 1) := by decide +kernel
theorem dX8_common_2 : decode cX8_common 2 = .ok (.lcmp, 1) := by decide +kernel
theorem dX8_common_3 : decode cX8_common 3 = .ok (.ifCond .ge 8, 3) := by decide +kernel
theorem dX8_common_6 : decode cX8_common 6 = .ok (.lload_n 0, 1) := by decide +kernel
theorem dX8_common_7 : decode cX8_common 7 = .ok (.lneg, 1) := by decide +kernel
theorem dX8_common_8 : decode cX8_common 8 = .ok (.goto 4, 3) := by decide +kernel
theorem dX8_common_11 : decode cX8_common 11 = .ok (.lload_n 0, 1) := by decide +kernel
theorem dX8_common_12 : decode cX8_common 12 = .ok (.lstore 4, 2) := by decide +kernel
theorem dX8_common_14 : decode cX8_common 14 = .ok (.lload_n 2, 1) := by decide +kernel
theorem dX8_common_15 : decode cX8_common 15 = .ok (.lconst 0, 1) := by decide +kernel
theorem dX8_common_16 : decode cX8_common 16 = .ok (.lcmp, 1) := by decide +kernel
theorem dX8_common_17 : decode cX8_common 17 = .ok (.ifCond .ge 8, 3) := by decide +kernel
theorem dX8_common_20 : decode cX8_common 20 = .ok (.lload_n 2, 1) := by decide +kernel
theorem dX8_common_21 : decode cX8_common 21 = .ok (.lneg, 1) := by decide +kernel
theorem dX8_common_22 : decode cX8_common 22 = .ok (.goto 4, 3) := by decide +kernel
theorem dX8_common_25 : decode cX8_common 25 = .ok (.lload_n 2, 1) := by decide +kernel
theorem dX8_common_26 : decode cX8_common 26 = .ok (.lstore 6, 2) := by decide +kernel
theorem dX8_common_28 : decode cX8_common 28 = .ok (.lload 6, 2) := by decide +kernel
theorem dX8_common_30 : decode cX8_common 30 = .ok (.lconst 0, 1) := by decide +kernel
theorem dX8_common_31 : decode cX8_common 31 = .ok (.lcmp, 1) := by decide +kernel
theorem dX8_common_32 : decode cX8_common 32 = .ok (.ifCond .eq 21, 3) := by decide +kernel
theorem dX8_common_35 : decode cX8_common 35 = .ok (.lload 4, 2) := by decide +kernel
theorem dX8_common_37 : decode cX8_common 37 = .ok (.lload 6, 2) := by decide +kernel
theorem dX8_common_39 : decode cX8_common 39 = .ok (.lrem, 1) := by decide +kernel
theorem dX8_common_40 : decode cX8_common 40 = .ok (.lstore 8, 2) := by decide +kernel
theorem dX8_common_42 : decode cX8_common 42 = .ok (.lload 6, 2) := by decide +kernel
theorem dX8_common_44 : decode cX8_common 44 = .ok (.lstore 4, 2) := by decide +kernel
theorem dX8_common_46 : decode cX8_common 46 = .ok (.lload 8, 2) := by decide +kernel
theorem dX8_common_48 : decode cX8_common 48 = .ok (.lstore 6, 2) := by decide +kernel
theorem dX8_common_50 : decode cX8_common 50 = .ok (.goto (-22), 3) := by decide +kernel
theorem dX8_common_53 : decode cX8_common 53 = .ok (.lload 4, 2) := by decide +kernel
theorem dX8_common_55 : decode cX8_common 55 = .ok (.lreturn, 1) := by decide +kernel
theorem dX8_set_0 : decode cX8_set 0 = .ok (.lload_n 1, 1) := by decide +kernel
theorem dX8_set_1 : decode cX8_set 1 = .ok (.lload_n 3, 1) := by decide +kernel
theorem dX8_set_2 : decode cX8_set 2 = .ok (.invokestatic 178, 3) := by decide +kernel
theorem dX8_set_5 : decode cX8_set 5 = .ok (.lstore 5, 2) := by decide +kernel
theorem dX8_set_7 : decode cX8_set 7 = .ok (.aload_n 0, 1) := by decide +kernel
theorem dX8_set_8 : decode cX8_set 8 = .ok (.lload_n 3, 1) := by decide +kernel
theorem dX8_set_9 : decode cX8_set 9 = .ok (.lconst 0, 1) := by decide +kernel
theorem dX8_set_10 : decode cX8_set 10 = .ok (.lcmp, 1) := by decide +kernel
theorem dX8_set_11 : decode cX8_set 11 = .ok (.ifCond .ge 11, 3) := by decide +kernel
theorem dX8_set_14 : decode cX8_set 14 = .ok (.lload_n 1, 1) := by decide +kernel
theorem dX8_set_15 : decode cX8_set 15 = .ok (.lneg, 1) := by decide +kernel
theorem dX8_set_16 : decode cX8_set 16 = .ok (.lload 5, 2) := by decide +kernel
theorem dX8_set_18 : decode cX8_set 18 = .ok (.ldiv, 1) := by decide +kernel
theorem dX8_set_19 : decode cX8_set 19 = .ok (.goto 7, 3) := by decide +kernel
theorem dX8_set_22 : decode cX8_set 22 = .ok (.lload_n 1, 1) := by decide +kernel
theorem dX8_set_23 : decode cX8_set 23 = .ok (.lload 5, 2) := by decide +kernel
theorem dX8_set_25 : decode cX8_set 25 = .ok (.ldiv, 1) := by decide +kernel
theorem dX8_set_26 : decode cX8_set 26 = .ok (.putfield 182, 3) := by decide +kernel
theorem dX8_set_29 : decode cX8_set 29 = .ok (.aload_n 0, 1) := by decide +kernel
theorem dX8_set_30 : decode cX8_set 30 = .ok (.lload_n 3, 1) := by decide +kernel
theorem dX8_set_31 : decode cX8_set 31 = .ok (.lconst 0, 1) := by decide +kernel
theorem dX8_set_32 : decode cX8_set 32 = .ok (.lcmp, 1) := by decide +kernel
theorem dX8_set_33 : decode cX8_set 33 = .ok (.ifCond .ge 11, 3) := by decide +kernel
theorem dX8_set_36 : decode cX8_set 36 = .ok (.lload_n 3, 1) := by decide +kernel
theorem dX8_set_37 : decode cX8_set 37 = .ok (.lneg, 1) := by decide +kernel
theorem dX8_set_38 : decode cX8_set 38 = .ok (.lload 5, 2) := by decide +kernel
theorem dX8_set_40 : decode cX8_set 40 = .ok (.ldiv, 1) := by decide +kernel
theorem dX8_set_41 : decode cX8_set 41 = .ok (.goto 7, 3) := by decide +kernel
theorem dX8_set_44 : decode cX8_set 44 = .ok (.lload_n 3, 1) := by decide +kernel
theorem dX8_set_45 : decode cX8_set 45 = .ok (.lload 5, 2) := by decide +kernel
theorem dX8_set_47 : decode cX8_set 47 = .ok (.ldiv, 1) := by decide +kernel
theorem dX8_set_48 : decode cX8_set 48 = .ok (.putfield 185, 3) := by decide +kernel
theorem dX8_set_51 : decode cX8_set 51 = .ok (.return_, 1) := by decide +kernel
theorem dX8_yearOf_0 : decode cX8_yearOf 0 = .ok (.aload_n 0, 1) := by decide +kernel
theorem dX8_yearOf_1 : decode cX8_yearOf 1 = .ok (.getfield 48, 3) := by decide +kernel
theorem dX8_yearOf_4 : decode cX8_yearOf 4 = .ok (.iload_n 1, 1) := by decide +kernel
theorem dX8_yearOf_5 : decode cX8_yearOf 5 = .ok (.baload, 1) := by decide +kernel
theorem dX8_yearOf_6 : decode cX8_yearOf 6 = .ok (.ifCond .eq 45, 3) := by decide +kernel
theorem dX8_yearOf_9 : decode cX8_yearOf 9 = .ok (.lconst 0, 1) := by decide +kernel
theorem dX8_yearOf_10 : decode cX8_yearOf 10 = .ok (.lstore_n 2, 1) := by decide +kernel
theorem dX8_yearOf_11 : decode cX8_yearOf 11 = .ok (.iconst 0, 1) := by decide +kernel
theorem dX8_yearOf_12 : decode cX8_yearOf 12 = .ok (.istore 4, 2) := by decide +kernel
theorem dX8_yearOf_14 : decode cX8_yearOf 14 = .ok (.iload 4, 2) := by decide +kernel
theorem dX8_yearOf_16 : decode cX8_yearOf 16 = .ok (.bipush 84, 2) := by decide +kernel
theorem dX8_yearOf_18 : decode cX8_yearOf 18 = .ok (.if_icmp .ge 25, 3) := by decide +kernel
theorem dX8_yearOf_21 : decode cX8_yearOf 21 = .ok (.lload_n 2, 1) := by decide +kernel
theorem dX8_yearOf_22 : decode cX8_yearOf 22 = .ok (.aload_n 0, 1) := by decide +kernel
theorem dX8_yearOf_23 : decode cX8_yearOf 23 = .ok (.getfield 45, 3) := by decide +kernel
theorem dX8_yearOf_26 : decode cX8_yearOf 26 = .ok (.bipush 84, 2) := by decide +kernel
theorem dX8_yearOf_28 : decode cX8_yearOf 28 = .ok (.iload_n 1, 1) := by decide +kernel
theorem dX8_yearOf_29 : decode cX8_yearOf 29 = .ok (.imul, 1) := by decide +kernel
theorem dX8_yearOf_30 : decode cX8_yearOf 30 = .ok (.iload 4, 2) := by decide +kernel
theorem dX8_yearOf_32 : decode cX8_yearOf 32 = .ok (.iadd, 1) := by decide +kernel
theorem dX8_yearOf_33 : decode cX8_yearOf 33 = .ok (.iaload, 1) := by decide +kernel
theorem dX8_yearOf_34 : decode cX8_yearOf 34 = .ok (.i2l, 1) := by decide +kernel
theorem dX8_yearOf_35 : decode cX8_yearOf 35 = .ok (.ladd, 1) := by decide +kernel
theorem dX8_yearOf_36 : decode cX8_yearOf 36 = .ok (.lstore_n 2, 1) := by decide +kernel
theorem dX8_yearOf_37 : decode cX8_yearOf 37 = .ok (.iinc 4 1, 3) := by decide +kernel
theorem dX8_yearOf_40 : decode cX8_yearOf 40 = .ok (.goto (-26), 3) := by decide +kernel
theorem dX8_yearOf_43 : decode cX8_yearOf 43 = .ok (.aload_n 0, 1) := by decide +kernel
theorem dX8_yearOf_44 : decode cX8_yearOf 44 = .ok (.lload_n 2, 1) := by decide +kernel
theorem dX8_yearOf_45 : decode cX8_yearOf 45 = .ok (.lconst 1, 1) := by decide +kernel
theorem dX8_yearOf_46 : decode cX8_yearOf 46 = .ok (.invokevirtual 188, 3) := by decide +kernel
theorem dX8_yearOf_49 : decode cX8_yearOf 49 = .ok (.iconst 1, 1) := by decide +kernel
theorem dX8_yearOf_50 : decode cX8_yearOf 50 = .ok (.ireturn, 1) := by decide +kernel
theorem dX8_yearOf_51 : decode cX8_yearOf 51 = .ok (.aload_n 0, 1) := by decide +kernel
theorem dX8_yearOf_52 : decode cX8_yearOf 52 = .ok (.iload_n 1, 1) := by decide +kernel
theorem dX8_yearOf_53 : decode cX8_yearOf 53 = .ok (.invokevirtual 175, 3) := by decide +kernel
theorem dX8_yearOf_56 : decode cX8_yearOf 56 = .ok (.ifCond .ne 5, 3) := by decide +kernel
theorem dX8_yearOf_59 : decode cX8_yearOf 59 = .ok (.iconst 0, 1) := by decide +kernel
theorem dX8_yearOf_60 : decode cX8_yearOf 60 = .ok (.ireturn, 1) := by decide +kernel
theorem dX8_yearOf_61 : decode cX8_yearOf 61 = .ok (.aload_n 0, 1) := by decide +kernel
theorem dX8_yearOf_62 : decode cX8_yearOf 62 = .ok (.aload_n 0, 1) := by decide +kernel
theorem dX8_yearOf_63 : decode cX8_yearOf 63 = .ok (.getfield 58, 3) := by decide +kernel
theorem dX8_yearOf_66 : decode cX8_yearOf 66 = .ok (.iconst 0, 1) := by decide +kernel
theorem dX8_yearOf_67 : decode cX8_yearOf 67 = .ok (.iaload, 1) := by decide +kernel
theorem dX8_yearOf_68 : decode cX8_yearOf 68 = .ok (.iconst (-1), 1) := by decide +kernel
theorem dX8_yearOf_69 : decode cX8_yearOf 69 = .ok (.invokevirtual 147, 3) := by decide +kernel
theorem dX8_yearOf_72 : decode cX8_yearOf 72 = .ok (.pop, 1) := by decide +kernel
theorem dX8_yearOf_73 : decode cX8_yearOf 73 = .ok (.aload_n 0, 1) := by decide +kernel
theorem dX8_yearOf_74 : decode cX8_yearOf 74 = .ok (.getfield 61, 3) := by decide +kernel
theorem dX8_yearOf_77 : decode cX8_yearOf 77 = .ok (.aload_n 0, 1) := by decide +kernel
theorem dX8_yearOf_78 : decode cX8_yearOf 78 = .ok (.getfield 58, 3) := by decide +kernel
theorem dX8_yearOf_81 : decode cX8_yearOf 81 = .ok (.iconst 0, 1) := by decide +kernel
theorem dX8_yearOf_82 : decode cX8_yearOf 82 = .ok (.iaload, 1) := by decide +kernel
theorem dX8_yearOf_83 : decode cX8_yearOf 83 = .ok (.laload, 1) := by decide +kernel
theorem dX8_yearOf_84 : decode cX8_yearOf 84 = .ok (.aload_n 0, 1) := by decide +kernel
theorem dX8_yearOf_85 : decode cX8_yearOf 85 = .ok (.getfield 64, 3) := by decide +kernel
theorem dX8_yearOf_88 : decode cX8_yearOf 88 = .ok (.aload_n 0, 1) := by decide +kernel
theorem dX8_yearOf_89 : decode cX8_yearOf 89 = .ok (.getfield 58, 3) := by decide +kernel
theorem dX8_yearOf_92 : decode cX8_yearOf 92 = .ok (.iconst 0, 1) := by decide +kernel
theorem dX8_yearOf_93 : decode cX8_yearOf 93 = .ok (.iaload, 1) := by decide +kernel
theorem dX8_yearOf_94 : decode cX8_yearOf 94 = .ok (.laload, 1) := by decide +kernel
theorem dX8_yearOf_95 : decode cX8_yearOf 95 = .ok (.invokestatic 178, 3) := by decide +kernel
theorem dX8_yearOf_98 : decode cX8_yearOf 98 = .ok (.lstore_n 2, 1) := by decide +kernel
theorem dX8_yearOf_99 : decode cX8_yearOf 99 = .ok (.aload_n 0, 1) := by decide +kernel
theorem dX8_yearOf_100 : decode cX8_yearOf 100 = .ok (.aload_n 0, 1) := by decide +kernel
theorem dX8_yearOf_101 : decode cX8_yearOf 101 = .ok (.getfield 61, 3) := by decide +kernel
theorem dX8_yearOf_104 : decode cX8_yearOf 104 = .ok (.aload_n 0, 1) := by decide +kernel
theorem dX8_yearOf_105 : decode cX8_yearOf 105 = .ok (.getfield 58, 3) := by decide +kernel
theorem dX8_yearOf_108 : decode cX8_yearOf 108 = .ok (.iconst 0, 1) := by decide +kernel
theorem dX8_yearOf_109 : decode cX8_yearOf 109 = .ok (.iaload, 1) := by decide +kernel
theorem dX8_yearOf_110 : decode cX8_yearOf 110 = .ok (.laload, 1) := by decide +kernel
theorem dX8_yearOf_111 : decode cX8_yearOf 111 = .ok (.lload_n 2, 1) := by decide +kernel
theorem dX8_yearOf_112 : decode cX8_yearOf 112 = .ok (.ldiv, 1) := by decide +kernel
theorem dX8_yearOf_113 : decode cX8_yearOf 113 = .ok (.aload_n 0, 1) := by decide +kernel
theorem dX8_yearOf_114 : decode cX8_yearOf 114 = .ok (.getfield 137, 3) := by decide +kernel
theorem dX8_yearOf_117 : decode cX8_yearOf 117 = .ok (.lmul, 1) := by decide +kernel
theorem dX8_yearOf_118 : decode cX8_yearOf 118 = .ok (.aload_n 0, 1) := by decide +kernel
theorem dX8_yearOf_119 : decode cX8_yearOf 119 = .ok (.getfield 137, 3) := by decide +kernel
theorem dX8_yearOf_122 : decode cX8_yearOf 122 = .ok (.lmul, 1) := by decide +kernel
theorem dX8_yearOf_123 : decode cX8_yearOf 123 = .ok (.aload_n 0, 1) := by decide +kernel
theorem dX8_yearOf_124 : decode cX8_yearOf 124 = .ok (.getfield 64, 3) := by decide +kernel
theorem dX8_yearOf_127 : decode cX8_yearOf 127 = .ok (.aload_n 0, 1) := by decide +kernel
theorem dX8_yearOf_128 : decode cX8_yearOf 128 = .ok (.getfield 58, 3) := by decide +kernel
theorem dX8_yearOf_131 : decode cX8_yearOf 131 = .ok (.iconst 0, 1) := by decide +kernel
theorem dX8_yearOf_132 : decode cX8_yearOf 132 = .ok (.iaload, 1) := by decide +kernel
theorem dX8_yearOf_133 : decode cX8_yearOf 133 = .ok (.laload, 1) := by decide +kernel
theorem dX8_yearOf_134 : decode cX8_yearOf 134 = .ok (.lload_n 2, 1) := by decide +kernel
theorem dX8_yearOf_135 : decode cX8_yearOf 135 = .ok (.ldiv, 1) := by decide +kernel
theorem dX8_yearOf_136 : decode cX8_yearOf 136 = .ok (.invokevirtual 188, 3) := by decide +kernel
theorem dX8_yearOf_139 : decode cX8_yearOf 139 = .ok (.iconst 1, 1) := by decide +kernel
theorem dX8_yearOf_140 : decode cX8_yearOf 140 = .ok (.ireturn, 1) := by decide +kernel
theorem dX8_begins_0 : decode cX8_begins 0 = .ok (.aload_n 0, 1) := by decide +kernel
theorem dX8_begins_1 : decode cX8_begins 1 = .ok (.iload_n 1, 1) := by decide +kernel
theorem dX8_begins_2 : decode cX8_begins 2 = .ok (.invokevirtual 112, 3) := by decide +kernel
theorem dX8_begins_5 : decode cX8_begins 5 = .ok (.ifCond .eq 7, 3) := by decide +kernel
theorem dX8_begins_8 : decode cX8_begins 8 = .ok (.iload_n 2, 1) := by decide +kernel
theorem dX8_begins_9 : decode cX8_begins 9 = .ok (.ifCond .ge 5, 3) := by decide +kernel
theorem dX8_begins_12 : decode cX8_begins 12 = .ok (.iconst 0, 1) := by decide +kernel
theorem dX8_begins_13 : decode cX8_begins 13 = .ok (.ireturn, 1) := by decide +kernel
theorem dX8_begins_14 : decode cX8_begins 14 = .ok (.aload_n 0, 1) := by decide +kernel
theorem dX8_begins_15 : decode cX8_begins 15 = .ok (.iload_n 2, 1) := by decide +kernel
theorem dX8_begins_16 : decode cX8_begins 16 = .ok (.invokevirtual 134, 3) := by decide +kernel
theorem dX8_begins_19 : decode cX8_begins 19 = .ok (.iconst 1, 1) := by decide +kernel
theorem dX8_begins_20 : decode cX8_begins 20 = .ok (.ireturn, 1) := by decide +kernel
theorem dX8_isWhat_0 : decode cX8_isWhat 0 = .ok (.iload_n 0, 1) := by decide +kernel
theorem dX8_isWhat_1 : decode cX8_isWhat 1 = .ok (.ifCond .eq 8, 3) := by decide +kernel
theorem dX8_isWhat_4 : decode cX8_isWhat 4 = .ok (.iload_n 0, 1) := by decide +kernel
theorem dX8_isWhat_5 : decode cX8_isWhat 5 = .ok (.iconst 1, 1) := by decide +kernel
theorem dX8_isWhat_6 : decode cX8_isWhat 6 = .ok (.if_icmp .ne 7, 3) := by decide +kernel
theorem dX8_isWhat_9 : decode cX8_isWhat 9 = .ok (.iconst 1, 1) := by decide +kernel
theorem dX8_isWhat_10 : decode cX8_isWhat 10 = .ok (.goto 4, 3) := by decide +kernel
theorem dX8_isWhat_13 : decode cX8_isWhat 13 = .ok (.iconst 0, 1) := by decide +kernel
theorem dX8_isWhat_14 : decode cX8_isWhat 14 = .ok (.ireturn, 1) := by decide +kernel
theorem dX8_year_0 : decode cX8_year 0 = .ok (.aload_n 0, 1) := by decide +kernel
theorem dX8_year_1 : decode cX8_year 1 = .ok (.iload_n 3, 1) := by decide +kernel
theorem dX8_year_2 : decode cX8_year 2 = .ok (.invokestatic 192, 3) := by decide +kernel
theorem dX8_year_5 : decode cX8_year 5 = .ok (.ifCond .eq 20, 3) := by decide +kernel
theorem dX8_year_8 : decode cX8_year 8 = .ok (.aload_n 0, 1) := by decide +kernel
theorem dX8_year_9 : decode cX8_year 9 = .ok (.iload_n 1, 1) := by decide +kernel
theorem dX8_year_10 : decode cX8_year 10 = .ok (.iload_n 2, 1) := by decide +kernel
theorem dX8_year_11 : decode cX8_year 11 = .ok (.invokevirtual 195, 3) := by decide +kernel
theorem dX8_year_14 : decode cX8_year 14 = .ok (.ifCond .eq 11, 3) := by decide +kernel
theorem dX8_year_17 : decode cX8_year 17 = .ok (.aload_n 0, 1) := by decide +kernel
theorem dX8_year_18 : decode cX8_year 18 = .ok (.iload_n 1, 1) := by decide +kernel
theorem dX8_year_19 : decode cX8_year 19 = .ok (.invokevirtual 198, 3) := by decide +kernel
theorem dX8_year_22 : decode cX8_year 22 = .ok (.ifCond .ne 7, 3) := by decide +kernel
theorem dX8_year_25 : decode cX8_year 25 = .ok (.iconst 1, 1) := by decide +kernel
theorem dX8_year_26 : decode cX8_year 26 = .ok (.goto 4, 3) := by decide +kernel
theorem dX8_year_29 : decode cX8_year 29 = .ok (.iconst 0, 1) := by decide +kernel
theorem dX8_year_30 : decode cX8_year 30 = .ok (.invokevirtual 151, 3) := by decide +kernel
theorem dX8_year_33 : decode cX8_year 33 = .ok (.ifCond .eq 5, 3) := by decide +kernel
theorem dX8_year_36 : decode cX8_year 36 = .ok (.lconst 0, 1) := by decide +kernel
theorem dX8_year_37 : decode cX8_year 37 = .ok (.lreturn, 1) := by decide +kernel
theorem dX8_year_38 : decode cX8_year 38 = .ok (.iload_n 3, 1) := by decide +kernel
theorem dX8_year_39 : decode cX8_year 39 = .ok (.ifCond .ne 10, 3) := by decide +kernel
theorem dX8_year_42 : decode cX8_year 42 = .ok (.aload_n 0, 1) := by decide +kernel
theorem dX8_year_43 : decode cX8_year 43 = .ok (.getfield 182, 3) := by decide +kernel
theorem dX8_year_46 : decode cX8_year 46 = .ok (.goto 7, 3) := by decide +kernel
theorem dX8_year_49 : decode cX8_year 49 = .ok (.aload_n 0, 1) := by decide +kernel
theorem dX8_year_50 : decode cX8_year 50 = .ok (.getfield 185, 3) := by decide +kernel
theorem dX8_year_53 : decode cX8_year 53 = .ok (.lreturn, 1) := by decide +kernel
theorem dX8_trial_0 : decode cX8_trial 0 = .ok (.aload_n 0, 1) := by decide +kernel
theorem dX8_trial_1 : decode cX8_trial 1 = .ok (.iload_n 3, 1) := by decide +kernel
theorem dX8_trial_2 : decode cX8_trial 2 = .ok (.invokestatic 192, 3) := by decide +kernel
theorem dX8_trial_5 : decode cX8_trial 5 = .ok (.ifCond .eq 45, 3) := by decide +kernel
theorem dX8_trial_8 : decode cX8_trial 8 = .ok (.aload_n 0, 1) := by decide +kernel
theorem dX8_trial_9 : decode cX8_trial 9 = .ok (.iload_n 1, 1) := by decide +kernel
theorem dX8_trial_10 : decode cX8_trial 10 = .ok (.iload_n 2, 1) := by decide +kernel
theorem dX8_trial_11 : decode cX8_trial 11 = .ok (.invokevirtual 195, 3) := by decide +kernel
theorem dX8_trial_14 : decode cX8_trial 14 = .ok (.ifCond .eq 36, 3) := by decide +kernel
theorem dX8_trial_17 : decode cX8_trial 17 = .ok (.aload_n 0, 1) := by decide +kernel
theorem dX8_trial_18 : decode cX8_trial 18 = .ok (.getfield 48, 3) := by decide +kernel
theorem dX8_trial_21 : decode cX8_trial 21 = .ok (.iload_n 1, 1) := by decide +kernel
theorem dX8_trial_22 : decode cX8_trial 22 = .ok (.baload, 1) := by decide +kernel
theorem dX8_trial_23 : decode cX8_trial 23 = .ok (.ifCond .eq 27, 3) := by decide +kernel
theorem dX8_trial_26 : decode cX8_trial 26 = .ok (.aload_n 0, 1) := by decide +kernel
theorem dX8_trial_27 : decode cX8_trial 27 = .ok (.aload_n 0, 1) := by decide +kernel
theorem dX8_trial_28 : decode cX8_trial 28 = .ok (.getfield 27, 3) := by decide +kernel
theorem dX8_trial_31 : decode cX8_trial 31 = .ok (.iload_n 1, 1) := by decide +kernel
theorem dX8_trial_32 : decode cX8_trial 32 = .ok (.iaload, 1) := by decide +kernel
theorem dX8_trial_33 : decode cX8_trial 33 = .ok (.iload_n 1, 1) := by decide +kernel
theorem dX8_trial_34 : decode cX8_trial 34 = .ok (.invokevirtual 147, 3) := by decide +kernel
theorem dX8_trial_37 : decode cX8_trial 37 = .ok (.ifCond .eq 13, 3) := by decide +kernel
theorem dX8_trial_40 : decode cX8_trial 40 = .ok (.aload_n 0, 1) := by decide +kernel
theorem dX8_trial_41 : decode cX8_trial 41 = .ok (.iload_n 1, 1) := by decide +kernel
theorem dX8_trial_42 : decode cX8_trial 42 = .ok (.bipush 7, 2) := by decide +kernel
theorem dX8_trial_44 : decode cX8_trial 44 = .ok (.invokevirtual 168, 3) := by decide +kernel
theorem dX8_trial_47 : decode cX8_trial 47 = .ok (.ifCond .ne 7, 3) := by decide +kernel
theorem dX8_trial_50 : decode cX8_trial 50 = .ok (.iconst 1, 1) := by decide +kernel
theorem dX8_trial_51 : decode cX8_trial 51 = .ok (.goto 4, 3) := by decide +kernel
theorem dX8_trial_54 : decode cX8_trial 54 = .ok (.iconst 0, 1) := by decide +kernel
theorem dX8_trial_55 : decode cX8_trial 55 = .ok (.invokevirtual 151, 3) := by decide +kernel
theorem dX8_trial_58 : decode cX8_trial 58 = .ok (.ifCond .eq 5, 3) := by decide +kernel
theorem dX8_trial_61 : decode cX8_trial 61 = .ok (.lconst 0, 1) := by decide +kernel
theorem dX8_trial_62 : decode cX8_trial 62 = .ok (.lreturn, 1) := by decide +kernel
theorem dX8_trial_63 : decode cX8_trial 63 = .ok (.aload_n 0, 1) := by decide +kernel
theorem dX8_trial_64 : decode cX8_trial 64 = .ok (.getfield 162, 3) := by decide +kernel
theorem dX8_trial_67 : decode cX8_trial 67 = .ok (.aload_n 0, 1) := by decide +kernel
theorem dX8_trial_68 : decode cX8_trial 68 = .ok (.getfield 165, 3) := by decide +kernel
theorem dX8_trial_71 : decode cX8_trial 71 = .ok (.invokestatic 178, 3) := by decide +kernel
theorem dX8_trial_74 : decode cX8_trial 74 = .ok (.lstore 4, 2) := by decide +kernel
theorem dX8_trial_76 : decode cX8_trial 76 = .ok (.aload_n 0, 1) := by decide +kernel
theorem dX8_trial_77 : decode cX8_trial 77 = .ok (.aload_n 0, 1) := by decide +kernel
theorem dX8_trial_78 : decode cX8_trial 78 = .ok (.getfield 162, 3) := by decide +kernel
theorem dX8_trial_81 : decode cX8_trial 81 = .ok (.lload 4, 2) := by decide +kernel
theorem dX8_trial_83 : decode cX8_trial 83 = .ok (.ldiv, 1) := by decide +kernel
theorem dX8_trial_84 : decode cX8_trial 84 = .ok (.aload_n 0, 1) := by decide +kernel
theorem dX8_trial_85 : decode cX8_trial 85 = .ok (.getfield 137, 3) := by decide +kernel
theorem dX8_trial_88 : decode cX8_trial 88 = .ok (.lmul, 1) := by decide +kernel
theorem dX8_trial_89 : decode cX8_trial 89 = .ok (.aload_n 0, 1) := by decide +kernel
theorem dX8_trial_90 : decode cX8_trial 90 = .ok (.getfield 137, 3) := by decide +kernel
theorem dX8_trial_93 : decode cX8_trial 93 = .ok (.lmul, 1) := by decide +kernel
theorem dX8_trial_94 : decode cX8_trial 94 = .ok (.aload_n 0, 1) := by decide +kernel
theorem dX8_trial_95 : decode cX8_trial 95 = .ok (.getfield 165, 3) := by decide +kernel
theorem dX8_trial_98 : decode cX8_trial 98 = .ok (.lload 4, 2) := by decide +kernel
theorem dX8_trial_100 : decode cX8_trial 100 = .ok (.ldiv, 1) := by decide +kernel
theorem dX8_trial_101 : decode cX8_trial 101 = .ok (.invokevirtual 188, 3) := by decide +kernel
theorem dX8_trial_104 : decode cX8_trial 104 = .ok (.iload_n 3, 1) := by decide +kernel
theorem dX8_trial_105 : decode cX8_trial 105 = .ok (.ifCond .ne 10, 3) := by decide +kernel
theorem dX8_trial_108 : decode cX8_trial 108 = .ok (.aload_n 0, 1) := by decide +kernel
theorem dX8_trial_109 : decode cX8_trial 109 = .ok (.getfield 182, 3) := by decide +kernel
theorem dX8_trial_112 : decode cX8_trial 112 = .ok (.goto 7, 3) := by decide +kernel
theorem dX8_trial_115 : decode cX8_trial 115 = .ok (.aload_n 0, 1) := by decide +kernel
theorem dX8_trial_116 : decode cX8_trial 116 = .ok (.getfield 185, 3) := by decide +kernel
theorem dX8_trial_119 : decode cX8_trial 119 = .ok (.lreturn, 1) := by decide +kernel
theorem dX8_flowAll_0 : decode cX8_flowAll 0 = .ok (.aload_n 0, 1) := by decide +kernel
theorem dX8_flowAll_1 : decode cX8_flowAll 1 = .ok (.iload_n 1, 1) := by decide +kernel
theorem dX8_flowAll_2 : decode cX8_flowAll 2 = .ok (.invokevirtual 134, 3) := by decide +kernel
theorem dX8_flowAll_5 : decode cX8_flowAll 5 = .ok (.iconst 0, 1) := by decide +kernel
theorem dX8_flowAll_6 : decode cX8_flowAll 6 = .ok (.istore_n 2, 1) := by decide +kernel
theorem dX8_flowAll_7 : decode cX8_flowAll 7 = .ok (.iload_n 2, 1) := by decide +kernel
theorem dX8_flowAll_8 : decode cX8_flowAll 8 = .ok (.bipush 16, 2) := by decide +kernel
theorem dX8_flowAll_10 : decode cX8_flowAll 10 = .ok (.if_icmp .ge 120, 3) := by decide +kernel
theorem dX8_flowAll_13 : decode cX8_flowAll 13 = .ok (.aload_n 0, 1) := by decide +kernel
theorem dX8_flowAll_14 : decode cX8_flowAll 14 = .ok (.getfield 67, 3) := by decide +kernel
theorem dX8_flowAll_17 : decode cX8_flowAll 17 = .ok (.iload_n 2, 1) := by decide +kernel
theorem dX8_flowAll_18 : decode cX8_flowAll 18 = .ok (.iconst (-1), 1) := by decide +kernel
theorem dX8_flowAll_19 : decode cX8_flowAll 19 = .ok (.iastore, 1) := by decide +kernel
theorem dX8_flowAll_20 : decode cX8_flowAll 20 = .ok (.aload_n 0, 1) := by decide +kernel
theorem dX8_flowAll_21 : decode cX8_flowAll 21 = .ok (.getfield 13, 3) := by decide +kernel
theorem dX8_flowAll_24 : decode cX8_flowAll 24 = .ok (.iload_n 2, 1) := by decide +kernel
theorem dX8_flowAll_25 : decode cX8_flowAll 25 = .ok (.baload, 1) := by decide +kernel
theorem dX8_flowAll_26 : decode cX8_flowAll 26 = .ok (.ifCond .eq 98, 3) := by decide +kernel
theorem dX8_flowAll_29 : decode cX8_flowAll 29 = .ok (.aload_n 0, 1) := by decide +kernel
theorem dX8_flowAll_30 : decode cX8_flowAll 30 = .ok (.iload_n 2, 1) := by decide +kernel
theorem dX8_flowAll_31 : decode cX8_flowAll 31 = .ok (.invokevirtual 198, 3) := by decide +kernel
theorem dX8_flowAll_34 : decode cX8_flowAll 34 = .ok (.ifCond .ne 6, 3) := by decide +kernel
theorem dX8_flowAll_37 : decode cX8_flowAll 37 = .ok (.goto 87, 3) := by decide +kernel
theorem dX8_flowAll_40 : decode cX8_flowAll 40 = .ok (.aload_n 0, 1) := by decide +kernel
theorem dX8_flowAll_41 : decode cX8_flowAll 41 = .ok (.getfield 182, 3) := by decide +kernel
theorem dX8_flowAll_44 : decode cX8_flowAll 44 = .ok (.aload_n 0, 1) := by decide +kernel
theorem dX8_flowAll_45 : decode cX8_flowAll 45 = .ok (.getfield 185, 3) := by decide +kernel
theorem dX8_flowAll_48 : decode cX8_flowAll 48 = .ok (.ldiv, 1) := by decide +kernel
theorem dX8_flowAll_49 : decode cX8_flowAll 49 = .ok (.lstore_n 3, 1) := by decide +kernel
theorem dX8_flowAll_50 : decode cX8_flowAll 50 = .ok (.aload_n 0, 1) := by decide +kernel
theorem dX8_flowAll_51 : decode cX8_flowAll 51 = .ok (.getfield 182, 3) := by decide +kernel
theorem dX8_flowAll_54 : decode cX8_flowAll 54 = .ok (.aload_n 0, 1) := by decide +kernel
theorem dX8_flowAll_55 : decode cX8_flowAll 55 = .ok (.getfield 185, 3) := by decide +kernel
theorem dX8_flowAll_58 : decode cX8_flowAll 58 = .ok (.lrem, 1) := by decide +kernel
theorem dX8_flowAll_59 : decode cX8_flowAll 59 = .ok (.lstore 5, 2) := by decide +kernel
theorem dX8_flowAll_61 : decode cX8_flowAll 61 = .ok (.lload 5, 2) := by decide +kernel
theorem dX8_flowAll_63 : decode cX8_flowAll 63 = .ok (.aload_n 0, 1) := by decide +kernel
theorem dX8_flowAll_64 : decode cX8_flowAll 64 = .ok (.getfield 185, 3) := by decide +kernel
theorem dX8_flowAll_67 : decode cX8_flowAll 67 = .ok (.lload 5, 2) := by decide +kernel
theorem dX8_flowAll_69 : decode cX8_flowAll 69 = .ok (.lsub, 1) := by decide +kernel
theorem dX8_flowAll_70 : decode cX8_flowAll 70 = .ok (.lcmp, 1) := by decide +kernel
theorem dX8_flowAll_71 : decode cX8_flowAll 71 = .ok (.ifCond .lt 7, 3) := by decide +kernel
theorem dX8_flowAll_74 : decode cX8_flowAll 74 = .ok (.lload_n 3, 1) := by decide +kernel
theorem dX8_flowAll_75 : decode cX8_flowAll 75 = .ok (.lconst 1, 1) := by decide +kernel
theorem dX8_flowAll_76 : decode cX8_flowAll 76 = .ok (.ladd, 1) := by decide +kernel
theorem dX8_flowAll_77 : decode cX8_flowAll 77 = .ok (.lstore_n 3, 1) := by decide +kernel
theorem dX8_flowAll_78 : decode cX8_flowAll 78 = .ok (.lload_n 3, 1) := by decide +kernel
theorem dX8_flowAll_79 : decode cX8_flowAll 79 = .ok (.ldc2_w 201, 3) := by decide +kernel
theorem dX8_flowAll_82 : decode cX8_flowAll 82 = .ok (.lcmp, 1) := by decide +kernel
theorem dX8_flowAll_83 : decode cX8_flowAll 83 = .ok (.ifCond .le 6, 3) := by decide +kernel
theorem dX8_flowAll_86 : decode cX8_flowAll 86 = .ok (.goto 38, 3) := by decide +kernel
theorem dX8_flowAll_89 : decode cX8_flowAll 89 = .ok (.aload_n 0, 1) := by decide +kernel
theorem dX8_flowAll_90 : decode cX8_flowAll 90 = .ok (.getfield 67, 3) := by decide +kernel
theorem dX8_flowAll_93 : decode cX8_flowAll 93 = .ok (.iload_n 2, 1) := by decide +kernel
theorem dX8_flowAll_94 : decode cX8_flowAll 94 = .ok (.lload_n 3, 1) := by decide +kernel
theorem dX8_flowAll_95 : decode cX8_flowAll 95 = .ok (.l2i, 1) := by decide +kernel
theorem dX8_flowAll_96 : decode cX8_flowAll 96 = .ok (.iastore, 1) := by decide +kernel
theorem dX8_flowAll_97 : decode cX8_flowAll 97 = .ok (.aload_n 0, 1) := by decide +kernel
theorem dX8_flowAll_98 : decode cX8_flowAll 98 = .ok (.getfield 70, 3) := by decide +kernel
theorem dX8_flowAll_101 : decode cX8_flowAll 101 = .ok (.iload_n 2, 1) := by decide +kernel
theorem dX8_flowAll_102 : decode cX8_flowAll 102 = .ok (.aload_n 0, 1) := by decide +kernel
theorem dX8_flowAll_103 : decode cX8_flowAll 103 = .ok (.getfield 48, 3) := by decide +kernel
theorem dX8_flowAll_106 : decode cX8_flowAll 106 = .ok (.iload_n 2, 1) := by decide +kernel
theorem dX8_flowAll_107 : decode cX8_flowAll 107 = .ok (.baload, 1) := by decide +kernel
theorem dX8_flowAll_108 : decode cX8_flowAll 108 = .ok (.ifCond .eq 7, 3) := by decide +kernel
theorem dX8_flowAll_111 : decode cX8_flowAll 111 = .ok (.iconst 1, 1) := by decide +kernel
theorem dX8_flowAll_112 : decode cX8_flowAll 112 = .ok (.goto 11, 3) := by decide +kernel
theorem dX8_flowAll_115 : decode cX8_flowAll 115 = .ok (.bipush 15, 2) := by decide +kernel
theorem dX8_flowAll_117 : decode cX8_flowAll 117 = .ok (.aload_n 0, 1) := by decide +kernel
theorem dX8_flowAll_118 : decode cX8_flowAll 118 = .ok (.iload_n 2, 1) := by decide +kernel
theorem dX8_flowAll_119 : decode cX8_flowAll 119 = .ok (.invokevirtual 159, 3) := by decide +kernel
theorem dX8_flowAll_122 : decode cX8_flowAll 122 = .ok (.isub, 1) := by decide +kernel
theorem dX8_flowAll_123 : decode cX8_flowAll 123 = .ok (.iastore, 1) := by decide +kernel
theorem dX8_flowAll_124 : decode cX8_flowAll 124 = .ok (.iinc 2 1, 3) := by decide +kernel
theorem dX8_flowAll_127 : decode cX8_flowAll 127 = .ok (.goto (-120), 3) := by decide +kernel
theorem dX8_flowAll_130 : decode cX8_flowAll 130 = .ok (.return_, 1) := by decide +kernel
theorem dX8_flow_0 : decode cX8_flow 0 = .ok (.aload_n 0, 1) := by decide +kernel
theorem dX8_flow_1 : decode cX8_flow 1 = .ok (.iconst 0, 1) := by decide +kernel
theorem dX8_flow_2 : decode cX8_flow 2 = .ok (.putfield 91, 3) := by decide +kernel
theorem dX8_flow_5 : decode cX8_flow 5 = .ok (.aload_n 0, 1) := by decide +kernel
theorem dX8_flow_6 : decode cX8_flow 6 = .ok (.iload_n 1, 1) := by decide +kernel
theorem dX8_flow_7 : decode cX8_flow 7 = .ok (.invokevirtual 112, 3) := by decide +kernel
theorem dX8_flow_10 : decode cX8_flow 10 = .ok (.ifCond .eq 7, 3) := by decide +kernel
theorem dX8_flow_13 : decode cX8_flow 13 = .ok (.iload_n 2, 1) := by decide +kernel
theorem dX8_flow_14 : decode cX8_flow 14 = .ok (.ifCond .ge 5, 3) := by decide +kernel
theorem dX8_flow_17 : decode cX8_flow 17 = .ok (.iconst (-1), 1) := by decide +kernel
theorem dX8_flow_18 : decode cX8_flow 18 = .ok (.ireturn, 1) := by decide +kernel
theorem dX8_flow_19 : decode cX8_flow 19 = .ok (.aload_n 0, 1) := by decide +kernel
theorem dX8_flow_20 : decode cX8_flow 20 = .ok (.iload_n 2, 1) := by decide +kernel
theorem dX8_flow_21 : decode cX8_flow 21 = .ok (.invokevirtual 203, 3) := by decide +kernel
theorem dX8_flow_24 : decode cX8_flow 24 = .ok (.aload_n 0, 1) := by decide +kernel
theorem dX8_flow_25 : decode cX8_flow 25 = .ok (.getfield 67, 3) := by decide +kernel
theorem dX8_flow_28 : decode cX8_flow 28 = .ok (.iload_n 1, 1) := by decide +kernel
theorem dX8_flow_29 : decode cX8_flow 29 = .ok (.iaload, 1) := by decide +kernel
theorem dX8_flow_30 : decode cX8_flow 30 = .ok (.ireturn, 1) := by decide +kernel
theorem dX8_missingAt_0 : decode cX8_missingAt 0 = .ok (.lconst 0, 1) := by decide +kernel
theorem dX8_missingAt_1 : decode cX8_missingAt 1 = .ok (.lstore_n 2, 1) := by decide +kernel
theorem dX8_missingAt_2 : decode cX8_missingAt 2 = .ok (.iconst 0, 1) := by decide +kernel
theorem dX8_missingAt_3 : decode cX8_missingAt 3 = .ok (.istore 4, 2) := by decide +kernel
theorem dX8_missingAt_5 : decode cX8_missingAt 5 = .ok (.iload 4, 2) := by decide +kernel
theorem dX8_missingAt_7 : decode cX8_missingAt 7 = .ok (.bipush 16, 2) := by decide +kernel
theorem dX8_missingAt_9 : decode cX8_missingAt 9 = .ok (.if_icmp .ge 68, 3) := by decide +kernel
theorem dX8_missingAt_12 : decode cX8_missingAt 12 = .ok (.aload_n 0, 1) := by decide +kernel
theorem dX8_missingAt_13 : decode cX8_missingAt 13 = .ok (.getfield 67, 3) := by decide +kernel
theorem dX8_missingAt_16 : decode cX8_missingAt 16 = .ok (.iload 4, 2) := by decide +kernel
theorem dX8_missingAt_18 : decode cX8_missingAt 18 = .ok (.iaload, 1) := by decide +kernel
theorem dX8_missingAt_19 : decode cX8_missingAt 19 = .ok (.ifCond .lt 52, 3) := by decide +kernel
theorem dX8_missingAt_22 : decode cX8_missingAt 22 = .ok (.lload_n 2, 1) := by decide +kernel
theorem dX8_missingAt_23 : decode cX8_missingAt 23 = .ok (.aload_n 0, 1) := by decide +kernel
theorem dX8_missingAt_24 : decode cX8_missingAt 24 = .ok (.getfield 24, 3) := by decide +kernel
theorem dX8_missingAt_27 : decode cX8_missingAt 27 = .ok (.iload 4, 2) := by decide +kernel
theorem dX8_missingAt_29 : decode cX8_missingAt 29 = .ok (.iaload, 1) := by decide +kernel
theorem dX8_missingAt_30 : decode cX8_missingAt 30 = .ok (.iload_n 1, 1) := by decide +kernel
theorem dX8_missingAt_31 : decode cX8_missingAt 31 = .ok (.if_icmp .ne 13, 3) := by decide +kernel
theorem dX8_missingAt_34 : decode cX8_missingAt 34 = .ok (.aload_n 0, 1) := by decide +kernel
theorem dX8_missingAt_35 : decode cX8_missingAt 35 = .ok (.getfield 67, 3) := by decide +kernel
theorem dX8_missingAt_38 : decode cX8_missingAt 38 = .ok (.iload 4, 2) := by decide +kernel
theorem dX8_missingAt_40 : decode cX8_missingAt 40 = .ok (.iaload, 1) := by decide +kernel
theorem dX8_missingAt_41 : decode cX8_missingAt 41 = .ok (.goto 4, 3) := by decide +kernel
theorem dX8_missingAt_44 : decode cX8_missingAt 44 = .ok (.iconst 0, 1) := by decide +kernel
theorem dX8_missingAt_45 : decode cX8_missingAt 45 = .ok (.aload_n 0, 1) := by decide +kernel
theorem dX8_missingAt_46 : decode cX8_missingAt 46 = .ok (.getfield 20, 3) := by decide +kernel
theorem dX8_missingAt_49 : decode cX8_missingAt 49 = .ok (.iload 4, 2) := by decide +kernel
theorem dX8_missingAt_51 : decode cX8_missingAt 51 = .ok (.iaload, 1) := by decide +kernel
theorem dX8_missingAt_52 : decode cX8_missingAt 52 = .ok (.iload_n 1, 1) := by decide +kernel
theorem dX8_missingAt_53 : decode cX8_missingAt 53 = .ok (.if_icmp .ne 13, 3) := by decide +kernel
theorem dX8_missingAt_56 : decode cX8_missingAt 56 = .ok (.aload_n 0, 1) := by decide +kernel
theorem dX8_missingAt_57 : decode cX8_missingAt 57 = .ok (.getfield 67, 3) := by decide +kernel
theorem dX8_missingAt_60 : decode cX8_missingAt 60 = .ok (.iload 4, 2) := by decide +kernel
theorem dX8_missingAt_62 : decode cX8_missingAt 62 = .ok (.iaload, 1) := by decide +kernel
theorem dX8_missingAt_63 : decode cX8_missingAt 63 = .ok (.goto 4, 3) := by decide +kernel
theorem dX8_missingAt_66 : decode cX8_missingAt 66 = .ok (.iconst 0, 1) := by decide +kernel
theorem dX8_missingAt_67 : decode cX8_missingAt 67 = .ok (.isub, 1) := by decide +kernel
theorem dX8_missingAt_68 : decode cX8_missingAt 68 = .ok (.i2l, 1) := by decide +kernel
theorem dX8_missingAt_69 : decode cX8_missingAt 69 = .ok (.ladd, 1) := by decide +kernel
theorem dX8_missingAt_70 : decode cX8_missingAt 70 = .ok (.lstore_n 2, 1) := by decide +kernel
theorem dX8_missingAt_71 : decode cX8_missingAt 71 = .ok (.iinc 4 1, 3) := by decide +kernel
theorem dX8_missingAt_74 : decode cX8_missingAt 74 = .ok (.goto (-69), 3) := by decide +kernel
theorem dX8_missingAt_77 : decode cX8_missingAt 77 = .ok (.lload_n 2, 1) := by decide +kernel
theorem dX8_missingAt_78 : decode cX8_missingAt 78 = .ok (.lreturn, 1) := by decide +kernel
theorem dX8_missing_0 : decode cX8_missing 0 = .ok (.aload_n 0, 1) := by decide +kernel
theorem dX8_missing_1 : decode cX8_missing 1 = .ok (.iload_n 1, 1) := by decide +kernel
theorem dX8_missing_2 : decode cX8_missing 2 = .ok (.ifCond .lt 13, 3) := by decide +kernel
theorem dX8_missing_5 : decode cX8_missing 5 = .ok (.iload_n 1, 1) := by decide +kernel
theorem dX8_missing_6 : decode cX8_missing 6 = .ok (.bipush 8, 2) := by decide +kernel
theorem dX8_missing_8 : decode cX8_missing 8 = .ok (.if_icmp .ge 7, 3) := by decide +kernel
theorem dX8_missing_11 : decode cX8_missing 11 = .ok (.iload_n 2, 1) := by decide +kernel
theorem dX8_missing_12 : decode cX8_missing 12 = .ok (.ifCond .ge 7, 3) := by decide +kernel
theorem dX8_missing_15 : decode cX8_missing 15 = .ok (.iconst 1, 1) := by decide +kernel
theorem dX8_missing_16 : decode cX8_missing 16 = .ok (.goto 4, 3) := by decide +kernel
theorem dX8_missing_19 : decode cX8_missing 19 = .ok (.iconst 0, 1) := by decide +kernel
theorem dX8_missing_20 : decode cX8_missing 20 = .ok (.invokevirtual 151, 3) := by decide +kernel
theorem dX8_missing_23 : decode cX8_missing 23 = .ok (.ifCond .eq 5, 3) := by decide +kernel
theorem dX8_missing_26 : decode cX8_missing 26 = .ok (.iconst 0, 1) := by decide +kernel
theorem dX8_missing_27 : decode cX8_missing 27 = .ok (.ireturn, 1) := by decide +kernel
theorem dX8_missing_28 : decode cX8_missing 28 = .ok (.aload_n 0, 1) := by decide +kernel
theorem dX8_missing_29 : decode cX8_missing 29 = .ok (.iload_n 2, 1) := by decide +kernel
theorem dX8_missing_30 : decode cX8_missing 30 = .ok (.invokevirtual 203, 3) := by decide +kernel
theorem dX8_missing_33 : decode cX8_missing 33 = .ok (.aload_n 0, 1) := by decide +kernel
theorem dX8_missing_34 : decode cX8_missing 34 = .ok (.iload_n 1, 1) := by decide +kernel
theorem dX8_missing_35 : decode cX8_missing 35 = .ok (.invokevirtual 206, 3) := by decide +kernel
theorem dX8_missing_38 : decode cX8_missing 38 = .ok (.l2i, 1) := by decide +kernel
theorem dX8_missing_39 : decode cX8_missing 39 = .ok (.ireturn, 1) := by decide +kernel
theorem dX8_choose_0 : decode cX8_choose 0 = .ok (.iconst 0, 1) := by decide +kernel
theorem dX8_choose_1 : decode cX8_choose 1 = .ok (.istore_n 1, 1) := by decide +kernel
theorem dX8_choose_2 : decode cX8_choose 2 = .ok (.iload_n 1, 1) := by decide +kernel
theorem dX8_choose_3 : decode cX8_choose 3 = .ok (.bipush 8, 2) := by decide +kernel
theorem dX8_choose_5 : decode cX8_choose 5 = .ok (.if_icmp .ge 25, 3) := by decide +kernel
theorem dX8_choose_8 : decode cX8_choose 8 = .ok (.aload_n 0, 1) := by decide +kernel
theorem dX8_choose_9 : decode cX8_choose 9 = .ok (.getfield 88, 3) := by decide +kernel
theorem dX8_choose_12 : decode cX8_choose 12 = .ok (.iload_n 1, 1) := by decide +kernel
theorem dX8_choose_13 : decode cX8_choose 13 = .ok (.iload_n 1, 1) := by decide +kernel
theorem dX8_choose_14 : decode cX8_choose 14 = .ok (.iconst 4, 1) := by decide +kernel
theorem dX8_choose_15 : decode cX8_choose 15 = .ok (.if_icmp .lt 7, 3) := by decide +kernel
theorem dX8_choose_18 : decode cX8_choose 18 = .ok (.iconst 1, 1) := by decide +kernel
theorem dX8_choose_19 : decode cX8_choose 19 = .ok (.goto 4, 3) := by decide +kernel
theorem dX8_choose_22 : decode cX8_choose 22 = .ok (.iconst 0, 1) := by decide +kernel
theorem dX8_choose_23 : decode cX8_choose 23 = .ok (.bastore, 1) := by decide +kernel
theorem dX8_choose_24 : decode cX8_choose 24 = .ok (.iinc 1 1, 3) := by decide +kernel
theorem dX8_choose_27 : decode cX8_choose 27 = .ok (.goto (-25), 3) := by decide +kernel
theorem dX8_choose_30 : decode cX8_choose 30 = .ok (.iconst 0, 1) := by decide +kernel
theorem dX8_choose_31 : decode cX8_choose 31 = .ok (.istore_n 1, 1) := by decide +kernel
theorem dX8_choose_32 : decode cX8_choose 32 = .ok (.iconst 0, 1) := by decide +kernel
theorem dX8_choose_33 : decode cX8_choose 33 = .ok (.istore_n 2, 1) := by decide +kernel
theorem dX8_choose_34 : decode cX8_choose 34 = .ok (.iload_n 2, 1) := by decide +kernel
theorem dX8_choose_35 : decode cX8_choose 35 = .ok (.bipush 8, 2) := by decide +kernel
theorem dX8_choose_37 : decode cX8_choose 37 = .ok (.if_icmp .ge 16, 3) := by decide +kernel
theorem dX8_choose_40 : decode cX8_choose 40 = .ok (.aload_n 0, 1) := by decide +kernel
theorem dX8_choose_41 : decode cX8_choose 41 = .ok (.getfield 73, 3) := by decide +kernel
theorem dX8_choose_44 : decode cX8_choose 44 = .ok (.iload_n 2, 1) := by decide +kernel
theorem dX8_choose_45 : decode cX8_choose 45 = .ok (.iconst (-1), 1) := by decide +kernel
theorem dX8_choose_46 : decode cX8_choose 46 = .ok (.iastore, 1) := by decide +kernel
theorem dX8_choose_47 : decode cX8_choose 47 = .ok (.iinc 2 1, 3) := by decide +kernel
theorem dX8_choose_50 : decode cX8_choose 50 = .ok (.goto (-16), 3) := by decide +kernel
theorem dX8_choose_53 : decode cX8_choose 53 = .ok (.iconst 0, 1) := by decide +kernel
theorem dX8_choose_54 : decode cX8_choose 54 = .ok (.istore_n 2, 1) := by decide +kernel
theorem dX8_choose_55 : decode cX8_choose 55 = .ok (.iload_n 2, 1) := by decide +kernel
theorem dX8_choose_56 : decode cX8_choose 56 = .ok (.iconst 4, 1) := by decide +kernel
theorem dX8_choose_57 : decode cX8_choose 57 = .ok (.if_icmp .ge 40, 3) := by decide +kernel
theorem dX8_choose_60 : decode cX8_choose 60 = .ok (.aload_n 0, 1) := by decide +kernel
theorem dX8_choose_61 : decode cX8_choose 61 = .ok (.invokevirtual 209, 3) := by decide +kernel
theorem dX8_choose_64 : decode cX8_choose 64 = .ok (.aload_n 0, 1) := by decide +kernel
theorem dX8_choose_65 : decode cX8_choose 65 = .ok (.getfield 88, 3) := by decide +kernel
theorem dX8_choose_68 : decode cX8_choose 68 = .ok (.iload_n 2, 1) := by decide +kernel
theorem dX8_choose_69 : decode cX8_choose 69 = .ok (.baload, 1) := by decide +kernel
theorem dX8_choose_70 : decode cX8_choose 70 = .ok (.ifCond .eq 6, 3) := by decide +kernel
theorem dX8_choose_73 : decode cX8_choose 73 = .ok (.goto 18, 3) := by decide +kernel
theorem dX8_choose_76 : decode cX8_choose 76 = .ok (.aload_n 0, 1) := by decide +kernel
theorem dX8_choose_77 : decode cX8_choose 77 = .ok (.getfield 88, 3) := by decide +kernel
theorem dX8_choose_80 : decode cX8_choose 80 = .ok (.iload_n 2, 1) := by decide +kernel
theorem dX8_choose_81 : decode cX8_choose 81 = .ok (.iconst 1, 1) := by decide +kernel
theorem dX8_choose_82 : decode cX8_choose 82 = .ok (.bastore, 1) := by decide +kernel
theorem dX8_choose_83 : decode cX8_choose 83 = .ok (.aload_n 0, 1) := by decide +kernel
theorem dX8_choose_84 : decode cX8_choose 84 = .ok (.getfield 73, 3) := by decide +kernel
theorem dX8_choose_87 : decode cX8_choose 87 = .ok (.iload_n 2, 1) := by decide +kernel
theorem dX8_choose_88 : decode cX8_choose 88 = .ok (.bipush (-2), 2) := by decide +kernel
theorem dX8_choose_90 : decode cX8_choose 90 = .ok (.iastore, 1) := by decide +kernel
theorem dX8_choose_91 : decode cX8_choose 91 = .ok (.iinc 2 1, 3) := by decide +kernel
theorem dX8_choose_94 : decode cX8_choose 94 = .ok (.goto (-39), 3) := by decide +kernel
theorem dX8_choose_97 : decode cX8_choose 97 = .ok (.aload_n 0, 1) := by decide +kernel
theorem dX8_choose_98 : decode cX8_choose 98 = .ok (.invokevirtual 209, 3) := by decide +kernel
theorem dX8_choose_101 : decode cX8_choose 101 = .ok (.iconst 0, 1) := by decide +kernel
theorem dX8_choose_102 : decode cX8_choose 102 = .ok (.istore_n 2, 1) := by decide +kernel
theorem dX8_choose_103 : decode cX8_choose 103 = .ok (.iload_n 2, 1) := by decide +kernel
theorem dX8_choose_104 : decode cX8_choose 104 = .ok (.iconst 4, 1) := by decide +kernel
theorem dX8_choose_105 : decode cX8_choose 105 = .ok (.if_icmp .ge 33, 3) := by decide +kernel
theorem dX8_choose_108 : decode cX8_choose 108 = .ok (.aload_n 0, 1) := by decide +kernel
theorem dX8_choose_109 : decode cX8_choose 109 = .ok (.getfield 73, 3) := by decide +kernel
theorem dX8_choose_112 : decode cX8_choose 112 = .ok (.iload_n 2, 1) := by decide +kernel
theorem dX8_choose_113 : decode cX8_choose 113 = .ok (.iaload, 1) := by decide +kernel
theorem dX8_choose_114 : decode cX8_choose 114 = .ok (.bipush (-2), 2) := by decide +kernel
theorem dX8_choose_116 : decode cX8_choose 116 = .ok (.if_icmp .ne 6, 3) := by decide +kernel
theorem dX8_choose_119 : decode cX8_choose 119 = .ok (.goto 13, 3) := by decide +kernel
theorem dX8_choose_122 : decode cX8_choose 122 = .ok (.aload_n 0, 1) := by decide +kernel
theorem dX8_choose_123 : decode cX8_choose 123 = .ok (.getfield 73, 3) := by decide +kernel
theorem dX8_choose_126 : decode cX8_choose 126 = .ok (.iload_n 2, 1) := by decide +kernel
theorem dX8_choose_127 : decode cX8_choose 127 = .ok (.iload_n 1, 1) := by decide +kernel
theorem dX8_choose_128 : decode cX8_choose 128 = .ok (.iastore, 1) := by decide +kernel
theorem dX8_choose_129 : decode cX8_choose 129 = .ok (.iinc 1 1, 3) := by decide +kernel
theorem dX8_choose_132 : decode cX8_choose 132 = .ok (.iinc 2 1, 3) := by decide +kernel
theorem dX8_choose_135 : decode cX8_choose 135 = .ok (.goto (-32), 3) := by decide +kernel
theorem dX8_choose_138 : decode cX8_choose 138 = .ok (.iload_n 1, 1) := by decide +kernel
theorem dX8_choose_139 : decode cX8_choose 139 = .ok (.ireturn, 1) := by decide +kernel
theorem dX8_spread_0 : decode cX8_spread 0 = .ok (.iconst 0, 1) := by decide +kernel
theorem dX8_spread_1 : decode cX8_spread 1 = .ok (.istore_n 1, 1) := by decide +kernel
theorem dX8_spread_2 : decode cX8_spread 2 = .ok (.iload_n 1, 1) := by decide +kernel
theorem dX8_spread_3 : decode cX8_spread 3 = .ok (.bipush 8, 2) := by decide +kernel
theorem dX8_spread_5 : decode cX8_spread 5 = .ok (.if_icmp .ge 93, 3) := by decide +kernel
theorem dX8_spread_8 : decode cX8_spread 8 = .ok (.iconst 0, 1) := by decide +kernel
theorem dX8_spread_9 : decode cX8_spread 9 = .ok (.istore_n 2, 1) := by decide +kernel
theorem dX8_spread_10 : decode cX8_spread 10 = .ok (.iload_n 2, 1) := by decide +kernel
theorem dX8_spread_11 : decode cX8_spread 11 = .ok (.bipush 16, 2) := by decide +kernel
theorem dX8_spread_13 : decode cX8_spread 13 = .ok (.if_icmp .ge 79, 3) := by decide +kernel
theorem dX8_spread_16 : decode cX8_spread 16 = .ok (.aload_n 0, 1) := by decide +kernel
theorem dX8_spread_17 : decode cX8_spread 17 = .ok (.getfield 67, 3) := by decide +kernel
theorem dX8_spread_20 : decode cX8_spread 20 = .ok (.iload_n 2, 1) := by decide +kernel
theorem dX8_spread_21 : decode cX8_spread 21 = .ok (.iaload, 1) := by decide +kernel
theorem dX8_spread_22 : decode cX8_spread 22 = .ok (.ifCond .ge 6, 3) := by decide +kernel
theorem dX8_spread_25 : decode cX8_spread 25 = .ok (.goto 61, 3) := by decide +kernel
theorem dX8_spread_28 : decode cX8_spread 28 = .ok (.aload_n 0, 1) := by decide +kernel
theorem dX8_spread_29 : decode cX8_spread 29 = .ok (.getfield 88, 3) := by decide +kernel
theorem dX8_spread_32 : decode cX8_spread 32 = .ok (.aload_n 0, 1) := by decide +kernel
theorem dX8_spread_33 : decode cX8_spread 33 = .ok (.getfield 20, 3) := by decide +kernel
theorem dX8_spread_36 : decode cX8_spread 36 = .ok (.iload_n 2, 1) := by decide +kernel
theorem dX8_spread_37 : decode cX8_spread 37 = .ok (.iaload, 1) := by decide +kernel
theorem dX8_spread_38 : decode cX8_spread 38 = .ok (.baload, 1) := by decide +kernel
theorem dX8_spread_39 : decode cX8_spread 39 = .ok (.ifCond .ne 17, 3) := by decide +kernel
theorem dX8_spread_42 : decode cX8_spread 42 = .ok (.aload_n 0, 1) := by decide +kernel
theorem dX8_spread_43 : decode cX8_spread 43 = .ok (.getfield 88, 3) := by decide +kernel
theorem dX8_spread_46 : decode cX8_spread 46 = .ok (.aload_n 0, 1) := by decide +kernel
theorem dX8_spread_47 : decode cX8_spread 47 = .ok (.getfield 24, 3) := by decide +kernel
theorem dX8_spread_50 : decode cX8_spread 50 = .ok (.iload_n 2, 1) := by decide +kernel
theorem dX8_spread_51 : decode cX8_spread 51 = .ok (.iaload, 1) := by decide +kernel
theorem dX8_spread_52 : decode cX8_spread 52 = .ok (.baload, 1) := by decide +kernel
theorem dX8_spread_53 : decode cX8_spread 53 = .ok (.ifCond .eq 7, 3) := by decide +kernel
theorem dX8_spread_56 : decode cX8_spread 56 = .ok (.iconst 1, 1) := by decide +kernel
theorem dX8_spread_57 : decode cX8_spread 57 = .ok (.goto 4, 3) := by decide +kernel
theorem dX8_spread_60 : decode cX8_spread 60 = .ok (.iconst 0, 1) := by decide +kernel
theorem dX8_spread_61 : decode cX8_spread 61 = .ok (.istore_n 3, 1) := by decide +kernel
theorem dX8_spread_62 : decode cX8_spread 62 = .ok (.aload_n 0, 1) := by decide +kernel
theorem dX8_spread_63 : decode cX8_spread 63 = .ok (.getfield 88, 3) := by decide +kernel
theorem dX8_spread_66 : decode cX8_spread 66 = .ok (.aload_n 0, 1) := by decide +kernel
theorem dX8_spread_67 : decode cX8_spread 67 = .ok (.getfield 20, 3) := by decide +kernel
theorem dX8_spread_70 : decode cX8_spread 70 = .ok (.iload_n 2, 1) := by decide +kernel
theorem dX8_spread_71 : decode cX8_spread 71 = .ok (.iaload, 1) := by decide +kernel
theorem dX8_spread_72 : decode cX8_spread 72 = .ok (.iload_n 3, 1) := by decide +kernel
theorem dX8_spread_73 : decode cX8_spread 73 = .ok (.bastore, 1) := by decide +kernel
theorem dX8_spread_74 : decode cX8_spread 74 = .ok (.aload_n 0, 1) := by decide +kernel
theorem dX8_spread_75 : decode cX8_spread 75 = .ok (.getfield 88, 3) := by decide +kernel
theorem dX8_spread_78 : decode cX8_spread 78 = .ok (.aload_n 0, 1) := by decide +kernel
theorem dX8_spread_79 : decode cX8_spread 79 = .ok (.getfield 24, 3) := by decide +kernel
theorem dX8_spread_82 : decode cX8_spread 82 = .ok (.iload_n 2, 1) := by decide +kernel
theorem dX8_spread_83 : decode cX8_spread 83 = .ok (.iaload, 1) := by decide +kernel
theorem dX8_spread_84 : decode cX8_spread 84 = .ok (.iload_n 3, 1) := by decide +kernel
theorem dX8_spread_85 : decode cX8_spread 85 = .ok (.bastore, 1) := by decide +kernel
theorem dX8_spread_86 : decode cX8_spread 86 = .ok (.iinc 2 1, 3) := by decide +kernel
theorem dX8_spread_89 : decode cX8_spread 89 = .ok (.goto (-79), 3) := by decide +kernel
theorem dX8_spread_92 : decode cX8_spread 92 = .ok (.iinc 1 1, 3) := by decide +kernel
theorem dX8_spread_95 : decode cX8_spread 95 = .ok (.goto (-93), 3) := by decide +kernel
theorem dX8_spread_98 : decode cX8_spread 98 = .ok (.return_, 1) := by decide +kernel
theorem dX8_determinant_0 : decode cX8_determinant 0 = .ok (.iconst 1, 1) := by decide +kernel
theorem dX8_determinant_1 : decode cX8_determinant 1 = .ok (.istore_n 3, 1) := by decide +kernel
theorem dX8_determinant_2 : decode cX8_determinant 2 = .ok (.iconst 0, 1) := by decide +kernel
theorem dX8_determinant_3 : decode cX8_determinant 3 = .ok (.istore 4, 2) := by decide +kernel
theorem dX8_determinant_5 : decode cX8_determinant 5 = .ok (.iload 4, 2) := by decide +kernel
theorem dX8_determinant_7 : decode cX8_determinant 7 = .ok (.iload_n 1, 1) := by decide +kernel
theorem dX8_determinant_8 : decode cX8_determinant 8 = .ok (.if_icmp .ge 13, 3) := by decide +kernel
theorem dX8_determinant_11 : decode cX8_determinant 11 = .ok (.iload_n 3, 1) := by decide +kernel
theorem dX8_determinant_12 : decode cX8_determinant 12 = .ok (.iload_n 1, 1) := by decide +kernel
theorem dX8_determinant_13 : decode cX8_determinant 13 = .ok (.imul, 1) := by decide +kernel
theorem dX8_determinant_14 : decode cX8_determinant 14 = .ok (.istore_n 3, 1) := by decide +kernel
theorem dX8_determinant_15 : decode cX8_determinant 15 = .ok (.iinc 4 1, 3) := by decide +kernel
theorem dX8_determinant_18 : decode cX8_determinant 18 = .ok (.goto (-13), 3) := by decide +kernel
theorem dX8_determinant_21 : decode cX8_determinant 21 = .ok (.lconst 0, 1) := by decide +kernel
theorem dX8_determinant_22 : decode cX8_determinant 22 = .ok (.lstore 4, 2) := by decide +kernel
theorem dX8_determinant_24 : decode cX8_determinant 24 = .ok (.iconst 0, 1) := by decide +kernel
theorem dX8_determinant_25 : decode cX8_determinant 25 = .ok (.istore 6, 2) := by decide +kernel
theorem dX8_determinant_27 : decode cX8_determinant 27 = .ok (.iload 6, 2) := by decide +kernel
theorem dX8_determinant_29 : decode cX8_determinant 29 = .ok (.iload_n 3, 1) := by decide +kernel
theorem dX8_determinant_30 : decode cX8_determinant 30 = .ok (.if_icmp .ge 184, 3) := by decide +kernel
theorem dX8_determinant_33 : decode cX8_determinant 33 = .ok (.iload 6, 2) := by decide +kernel
theorem dX8_determinant_35 : decode cX8_determinant 35 = .ok (.istore 7, 2) := by decide +kernel
theorem dX8_determinant_37 : decode cX8_determinant 37 = .ok (.lconst 1, 1) := by decide +kernel
theorem dX8_determinant_38 : decode cX8_determinant 38 = .ok (.lstore 8, 2) := by decide +kernel
theorem dX8_determinant_40 : decode cX8_determinant 40 = .ok (.iconst 0, 1) := by decide +kernel
theorem dX8_determinant_41 : decode cX8_determinant 41 = .ok (.istore 10, 2) := by decide +kernel
theorem dX8_determinant_43 : decode cX8_determinant 43 = .ok (.iload 10, 2) := by decide +kernel
theorem dX8_determinant_45 : decode cX8_determinant 45 = .ok (.iload_n 1, 1) := by decide +kernel
theorem dX8_determinant_46 : decode cX8_determinant 46 = .ok (.if_icmp .ge 90, 3) := by decide +kernel
theorem dX8_determinant_49 : decode cX8_determinant 49 = .ok (.aload_n 0, 1) := by decide +kernel
theorem dX8_determinant_50 : decode cX8_determinant 50 = .ok (.getfield 76, 3) := by decide +kernel
theorem dX8_determinant_53 : decode cX8_determinant 53 = .ok (.iload 10, 2) := by decide +kernel
theorem dX8_determinant_55 : decode cX8_determinant 55 = .ok (.iload 7, 2) := by decide +kernel
theorem dX8_determinant_57 : decode cX8_determinant 57 = .ok (.iload_n 1, 1) := by decide +kernel
theorem dX8_determinant_58 : decode cX8_determinant 58 = .ok (.irem, 1) := by decide +kernel
theorem dX8_determinant_59 : decode cX8_determinant 59 = .ok (.iastore, 1) := by decide +kernel
theorem dX8_determinant_60 : decode cX8_determinant 60 = .ok (.iload 7, 2) := by decide +kernel
theorem dX8_determinant_62 : decode cX8_determinant 62 = .ok (.iload_n 1, 1) := by decide +kernel
theorem dX8_determinant_63 : decode cX8_determinant 63 = .ok (.idiv, 1) := by decide +kernel
theorem dX8_determinant_64 : decode cX8_determinant 64 = .ok (.istore 7, 2) := by decide +kernel
theorem dX8_determinant_66 : decode cX8_determinant 66 = .ok (.iconst 0, 1) := by decide +kernel
theorem dX8_determinant_67 : decode cX8_determinant 67 = .ok (.istore 11, 2) := by decide +kernel
theorem dX8_determinant_69 : decode cX8_determinant 69 = .ok (.iload 11, 2) := by decide +kernel
theorem dX8_determinant_71 : decode cX8_determinant 71 = .ok (.iload 10, 2) := by decide +kernel
theorem dX8_determinant_73 : decode cX8_determinant 73 = .ok (.if_icmp .ge 57, 3) := by decide +kernel
theorem dX8_determinant_76 : decode cX8_determinant 76 = .ok (.aload_n 0, 1) := by decide +kernel
theorem dX8_determinant_77 : decode cX8_determinant 77 = .ok (.getfield 76, 3) := by decide +kernel
theorem dX8_determinant_80 : decode cX8_determinant 80 = .ok (.iload 11, 2) := by decide +kernel
theorem dX8_determinant_82 : decode cX8_determinant 82 = .ok (.iaload, 1) := by decide +kernel
theorem dX8_determinant_83 : decode cX8_determinant 83 = .ok (.aload_n 0, 1) := by decide +kernel
theorem dX8_determinant_84 : decode cX8_determinant 84 = .ok (.getfield 76, 3) := by decide +kernel
theorem dX8_determinant_87 : decode cX8_determinant 87 = .ok (.iload 10, 2) := by decide +kernel
theorem dX8_determinant_89 : decode cX8_determinant 89 = .ok (.iaload, 1) := by decide +kernel
theorem dX8_determinant_90 : decode cX8_determinant 90 = .ok (.if_icmp .ne 7, 3) := by decide +kernel
theorem dX8_determinant_93 : decode cX8_determinant 93 = .ok (.lconst 0, 1) := by decide +kernel
theorem dX8_determinant_94 : decode cX8_determinant 94 = .ok (.goto 28, 3) := by decide +kernel
theorem dX8_determinant_97 : decode cX8_determinant 97 = .ok (.aload_n 0, 1) := by decide +kernel
theorem dX8_determinant_98 : decode cX8_determinant 98 = .ok (.getfield 76, 3) := by decide +kernel
theorem dX8_determinant_101 : decode cX8_determinant 101 = .ok (.iload 11, 2) := by decide +kernel
theorem dX8_determinant_103 : decode cX8_determinant 103 = .ok (.iaload, 1) := by decide +kernel
theorem dX8_determinant_104 : decode cX8_determinant 104 = .ok (.aload_n 0, 1) := by decide +kernel
theorem dX8_determinant_105 : decode cX8_determinant 105 = .ok (.getfield 76, 3) := by decide +kernel
theorem dX8_determinant_108 : decode cX8_determinant 108 = .ok (.iload 10, 2) := by decide +kernel
theorem dX8_determinant_110 : decode cX8_determinant 110 = .ok (.iaload, 1) := by decide +kernel
theorem dX8_determinant_111 : decode cX8_determinant 111 = .ok (.if_icmp .le 9, 3) := by decide +kernel
theorem dX8_determinant_114 : decode cX8_determinant 114 = .ok (.lload 8, 2) := by decide +kernel
theorem dX8_determinant_116 : decode cX8_determinant 116 = .ok (.lneg, 1) := by decide +kernel
theorem dX8_determinant_117 : decode cX8_determinant 117 = .ok (.goto 5, 3) := by decide +kernel
theorem dX8_determinant_120 : decode cX8_determinant 120 = .ok (.lload 8, 2) := by decide +kernel
theorem dX8_determinant_122 : decode cX8_determinant 122 = .ok (.lstore 8, 2) := by decide +kernel
theorem dX8_determinant_124 : decode cX8_determinant 124 = .ok (.iinc 11 1, 3) := by decide +kernel
theorem dX8_determinant_127 : decode cX8_determinant 127 = .ok (.goto (-58), 3) := by decide +kernel
theorem dX8_determinant_130 : decode cX8_determinant 130 = .ok (.iinc 10 1, 3) := by decide +kernel
theorem dX8_determinant_133 : decode cX8_determinant 133 = .ok (.goto (-90), 3) := by decide +kernel
theorem dX8_determinant_136 : decode cX8_determinant 136 = .ok (.iconst 0, 1) := by decide +kernel
theorem dX8_determinant_137 : decode cX8_determinant 137 = .ok (.istore 10, 2) := by decide +kernel
theorem dX8_determinant_139 : decode cX8_determinant 139 = .ok (.iload 10, 2) := by decide +kernel
theorem dX8_determinant_141 : decode cX8_determinant 141 = .ok (.iload_n 1, 1) := by decide +kernel
theorem dX8_determinant_142 : decode cX8_determinant 142 = .ok (.if_icmp .ge 59, 3) := by decide +kernel
theorem dX8_determinant_145 : decode cX8_determinant 145 = .ok (.lload 8, 2) := by decide +kernel
theorem dX8_determinant_147 : decode cX8_determinant 147 = .ok (.lconst 0, 1) := by decide +kernel
theorem dX8_determinant_148 : decode cX8_determinant 148 = .ok (.lcmp, 1) := by decide +kernel
theorem dX8_determinant_149 : decode cX8_determinant 149 = .ok (.ifCond .eq 52, 3) := by decide +kernel
theorem dX8_determinant_152 : decode cX8_determinant 152 = .ok (.lload 8, 2) := by decide +kernel
theorem dX8_determinant_154 : decode cX8_determinant 154 = .ok (.aload_n 0, 1) := by decide +kernel
theorem dX8_determinant_155 : decode cX8_determinant 155 = .ok (.getfield 76, 3) := by decide +kernel
theorem dX8_determinant_158 : decode cX8_determinant 158 = .ok (.iload 10, 2) := by decide +kernel
theorem dX8_determinant_160 : decode cX8_determinant 160 = .ok (.iaload, 1) := by decide +kernel
theorem dX8_determinant_161 : decode cX8_determinant 161 = .ok (.iload_n 2, 1) := by decide +kernel
theorem dX8_determinant_162 : decode cX8_determinant 162 = .ok (.if_icmp .ne 13, 3) := by decide +kernel
theorem dX8_determinant_165 : decode cX8_determinant 165 = .ok (.aload_n 0, 1) := by decide +kernel
theorem dX8_determinant_166 : decode cX8_determinant 166 = .ok (.getfield 82, 3) := by decide +kernel
theorem dX8_determinant_169 : decode cX8_determinant 169 = .ok (.iload 10, 2) := by decide +kernel
theorem dX8_determinant_171 : decode cX8_determinant 171 = .ok (.laload, 1) := by decide +kernel
theorem dX8_determinant_172 : decode cX8_determinant 172 = .ok (.goto 20, 3) := by decide +kernel
theorem dX8_determinant_175 : decode cX8_determinant 175 = .ok (.aload_n 0, 1) := by decide +kernel
theorem dX8_determinant_176 : decode cX8_determinant 176 = .ok (.getfield 79, 3) := by decide +kernel
theorem dX8_determinant_179 : decode cX8_determinant 179 = .ok (.iconst 4, 1) := by decide +kernel
theorem dX8_determinant_180 : decode cX8_determinant 180 = .ok (.iload 10, 2) := by decide +kernel
theorem dX8_determinant_182 : decode cX8_determinant 182 = .ok (.imul, 1) := by decide +kernel
theorem dX8_determinant_183 : decode cX8_determinant 183 = .ok (.aload_n 0, 1) := by decide +kernel
theorem dX8_determinant_184 : decode cX8_determinant 184 = .ok (.getfield 76, 3) := by decide +kernel
theorem dX8_determinant_187 : decode cX8_determinant 187 = .ok (.iload 10, 2) := by decide +kernel
theorem dX8_determinant_189 : decode cX8_determinant 189 = .ok (.iaload, 1) := by decide +kernel
theorem dX8_determinant_190 : decode cX8_determinant 190 = .ok (.iadd, 1) := by decide +kernel
theorem dX8_determinant_191 : decode cX8_determinant 191 = .ok (.laload, 1) := by decide +kernel
theorem dX8_determinant_192 : decode cX8_determinant 192 = .ok (.lmul, 1) := by decide +kernel
theorem dX8_determinant_193 : decode cX8_determinant 193 = .ok (.lstore 8, 2) := by decide +kernel
theorem dX8_determinant_195 : decode cX8_determinant 195 = .ok (.iinc 10 1, 3) := by decide +kernel
theorem dX8_determinant_198 : decode cX8_determinant 198 = .ok (.goto (-59), 3) := by decide +kernel
theorem dX8_determinant_201 : decode cX8_determinant 201 = .ok (.lload 4, 2) := by decide +kernel
theorem dX8_determinant_203 : decode cX8_determinant 203 = .ok (.lload 8, 2) := by decide +kernel
theorem dX8_determinant_205 : decode cX8_determinant 205 = .ok (.ladd, 1) := by decide +kernel
theorem dX8_determinant_206 : decode cX8_determinant 206 = .ok (.lstore 4, 2) := by decide +kernel
theorem dX8_determinant_208 : decode cX8_determinant 208 = .ok (.iinc 6 1, 3) := by decide +kernel
theorem dX8_determinant_211 : decode cX8_determinant 211 = .ok (.goto (-184), 3) := by decide +kernel
theorem dX8_determinant_214 : decode cX8_determinant 214 = .ok (.lload 4, 2) := by decide +kernel
theorem dX8_determinant_216 : decode cX8_determinant 216 = .ok (.lreturn, 1) := by decide +kernel
theorem dX8_agreed_0 : decode cX8_agreed 0 = .ok (.aload_n 0, 1) := by decide +kernel
theorem dX8_agreed_1 : decode cX8_agreed 1 = .ok (.iload_n 1, 1) := by decide +kernel
theorem dX8_agreed_2 : decode cX8_agreed 2 = .ok (.invokevirtual 112, 3) := by decide +kernel
theorem dX8_agreed_5 : decode cX8_agreed 5 = .ok (.ifCond .eq 18, 3) := by decide +kernel
theorem dX8_agreed_8 : decode cX8_agreed 8 = .ok (.iload_n 2, 1) := by decide +kernel
theorem dX8_agreed_9 : decode cX8_agreed 9 = .ok (.ifCond .lt 14, 3) := by decide +kernel
theorem dX8_agreed_12 : decode cX8_agreed 12 = .ok (.iload_n 3, 1) := by decide +kernel
theorem dX8_agreed_13 : decode cX8_agreed 13 = .ok (.invokestatic 192, 3) := by decide +kernel
theorem dX8_agreed_16 : decode cX8_agreed 16 = .ok (.ifCond .eq 7, 3) := by decide +kernel
theorem dX8_agreed_19 : decode cX8_agreed 19 = .ok (.iconst 1, 1) := by decide +kernel
theorem dX8_agreed_20 : decode cX8_agreed 20 = .ok (.goto 4, 3) := by decide +kernel
theorem dX8_agreed_23 : decode cX8_agreed 23 = .ok (.iconst 0, 1) := by decide +kernel
theorem dX8_agreed_24 : decode cX8_agreed 24 = .ok (.istore 4, 2) := by decide +kernel
theorem dX8_agreed_26 : decode cX8_agreed 26 = .ok (.iload 4, 2) := by decide +kernel
theorem dX8_agreed_28 : decode cX8_agreed 28 = .ok (.ifCond .eq 8, 3) := by decide +kernel
theorem dX8_agreed_31 : decode cX8_agreed 31 = .ok (.aload_n 0, 1) := by decide +kernel
theorem dX8_agreed_32 : decode cX8_agreed 32 = .ok (.iload_n 2, 1) := by decide +kernel
theorem dX8_agreed_33 : decode cX8_agreed 33 = .ok (.invokevirtual 203, 3) := by decide +kernel
theorem dX8_agreed_36 : decode cX8_agreed 36 = .ok (.aload_n 0, 1) := by decide +kernel
theorem dX8_agreed_37 : decode cX8_agreed 37 = .ok (.iload 4, 2) := by decide +kernel
theorem dX8_agreed_39 : decode cX8_agreed 39 = .ok (.ifCond .eq 12, 3) := by decide +kernel
theorem dX8_agreed_42 : decode cX8_agreed 42 = .ok (.aload_n 0, 1) := by decide +kernel
theorem dX8_agreed_43 : decode cX8_agreed 43 = .ok (.getfield 67, 3) := by decide +kernel
theorem dX8_agreed_46 : decode cX8_agreed 46 = .ok (.iload_n 1, 1) := by decide +kernel
theorem dX8_agreed_47 : decode cX8_agreed 47 = .ok (.iaload, 1) := by decide +kernel
theorem dX8_agreed_48 : decode cX8_agreed 48 = .ok (.ifCond .ge 7, 3) := by decide +kernel
theorem dX8_agreed_51 : decode cX8_agreed 51 = .ok (.iconst 1, 1) := by decide +kernel
theorem dX8_agreed_52 : decode cX8_agreed 52 = .ok (.goto 4, 3) := by decide +kernel
theorem dX8_agreed_55 : decode cX8_agreed 55 = .ok (.iconst 0, 1) := by decide +kernel
theorem dX8_agreed_56 : decode cX8_agreed 56 = .ok (.invokevirtual 151, 3) := by decide +kernel
theorem dX8_agreed_59 : decode cX8_agreed 59 = .ok (.ifCond .eq 5, 3) := by decide +kernel
theorem dX8_agreed_62 : decode cX8_agreed 62 = .ok (.lconst 0, 1) := by decide +kernel
theorem dX8_agreed_63 : decode cX8_agreed 63 = .ok (.lreturn, 1) := by decide +kernel
theorem dX8_agreed_64 : decode cX8_agreed 64 = .ok (.aload_n 0, 1) := by decide +kernel
theorem dX8_agreed_65 : decode cX8_agreed 65 = .ok (.invokevirtual 212, 3) := by decide +kernel
theorem dX8_agreed_68 : decode cX8_agreed 68 = .ok (.istore 5, 2) := by decide +kernel
theorem dX8_agreed_70 : decode cX8_agreed 70 = .ok (.iconst 0, 1) := by decide +kernel
theorem dX8_agreed_71 : decode cX8_agreed 71 = .ok (.istore 6, 2) := by decide +kernel
theorem dX8_agreed_73 : decode cX8_agreed 73 = .ok (.iload 6, 2) := by decide +kernel
theorem dX8_agreed_75 : decode cX8_agreed 75 = .ok (.bipush 16, 2) := by decide +kernel
theorem dX8_agreed_77 : decode cX8_agreed 77 = .ok (.if_icmp .ge 17, 3) := by decide +kernel
theorem dX8_agreed_80 : decode cX8_agreed 80 = .ok (.aload_n 0, 1) := by decide +kernel
theorem dX8_agreed_81 : decode cX8_agreed 81 = .ok (.getfield 79, 3) := by decide +kernel
theorem dX8_agreed_84 : decode cX8_agreed 84 = .ok (.iload 6, 2) := by decide +kernel
theorem dX8_agreed_86 : decode cX8_agreed 86 = .ok (.lconst 0, 1) := by decide +kernel
theorem dX8_agreed_87 : decode cX8_agreed 87 = .ok (.lastore, 1) := by decide +kernel
theorem dX8_agreed_88 : decode cX8_agreed 88 = .ok (.iinc 6 1, 3) := by decide +kernel
theorem dX8_agreed_91 : decode cX8_agreed 91 = .ok (.goto (-18), 3) := by decide +kernel
theorem dX8_agreed_94 : decode cX8_agreed 94 = .ok (.iconst 0, 1) := by decide +kernel
theorem dX8_agreed_95 : decode cX8_agreed 95 = .ok (.istore 6, 2) := by decide +kernel
theorem dX8_agreed_97 : decode cX8_agreed 97 = .ok (.iload 6, 2) := by decide +kernel
theorem dX8_agreed_99 : decode cX8_agreed 99 = .ok (.bipush 16, 2) := by decide +kernel
theorem dX8_agreed_101 : decode cX8_agreed 101 = .ok (.if_icmp .ge 156, 3) := by decide +kernel
theorem dX8_agreed_104 : decode cX8_agreed 104 = .ok (.aload_n 0, 1) := by decide +kernel
theorem dX8_agreed_105 : decode cX8_agreed 105 = .ok (.getfield 67, 3) := by decide +kernel
theorem dX8_agreed_108 : decode cX8_agreed 108 = .ok (.iload 6, 2) := by decide +kernel
theorem dX8_agreed_110 : decode cX8_agreed 110 = .ok (.iaload, 1) := by decide +kernel
theorem dX8_agreed_111 : decode cX8_agreed 111 = .ok (.ifCond .ge 6, 3) := by decide +kernel
theorem dX8_agreed_114 : decode cX8_agreed 114 = .ok (.goto 137, 3) := by decide +kernel
theorem dX8_agreed_117 : decode cX8_agreed 117 = .ok (.aload_n 0, 1) := by decide +kernel
theorem dX8_agreed_118 : decode cX8_agreed 118 = .ok (.getfield 73, 3) := by decide +kernel
theorem dX8_agreed_121 : decode cX8_agreed 121 = .ok (.aload_n 0, 1) := by decide +kernel
theorem dX8_agreed_122 : decode cX8_agreed 122 = .ok (.getfield 20, 3) := by decide +kernel
theorem dX8_agreed_125 : decode cX8_agreed 125 = .ok (.iload 6, 2) := by decide +kernel
theorem dX8_agreed_127 : decode cX8_agreed 127 = .ok (.iaload, 1) := by decide +kernel
theorem dX8_agreed_128 : decode cX8_agreed 128 = .ok (.iaload, 1) := by decide +kernel
theorem dX8_agreed_129 : decode cX8_agreed 129 = .ok (.istore 7, 2) := by decide +kernel
theorem dX8_agreed_131 : decode cX8_agreed 131 = .ok (.aload_n 0, 1) := by decide +kernel
theorem dX8_agreed_132 : decode cX8_agreed 132 = .ok (.getfield 73, 3) := by decide +kernel
theorem dX8_agreed_135 : decode cX8_agreed 135 = .ok (.aload_n 0, 1) := by decide +kernel
theorem dX8_agreed_136 : decode cX8_agreed 136 = .ok (.getfield 24, 3) := by decide +kernel
theorem dX8_agreed_139 : decode cX8_agreed 139 = .ok (.iload 6, 2) := by decide +kernel
theorem dX8_agreed_141 : decode cX8_agreed 141 = .ok (.iaload, 1) := by decide +kernel
theorem dX8_agreed_142 : decode cX8_agreed 142 = .ok (.iaload, 1) := by decide +kernel
theorem dX8_agreed_143 : decode cX8_agreed 143 = .ok (.istore 8, 2) := by decide +kernel
theorem dX8_agreed_145 : decode cX8_agreed 145 = .ok (.iload 7, 2) := by decide +kernel
theorem dX8_agreed_147 : decode cX8_agreed 147 = .ok (.ifCond .lt 23, 3) := by decide +kernel
theorem dX8_agreed_150 : decode cX8_agreed 150 = .ok (.aload_n 0, 1) := by decide +kernel
theorem dX8_agreed_151 : decode cX8_agreed 151 = .ok (.getfield 79, 3) := by decide +kernel
theorem dX8_agreed_154 : decode cX8_agreed 154 = .ok (.iconst 5, 1) := by decide +kernel
theorem dX8_agreed_155 : decode cX8_agreed 155 = .ok (.iload 7, 2) := by decide +kernel
theorem dX8_agreed_157 : decode cX8_agreed 157 = .ok (.imul, 1) := by decide +kernel
theorem dX8_agreed_158 : decode cX8_agreed 158 = .ok (.dup2, 1) := by decide +kernel
theorem dX8_agreed_159 : decode cX8_agreed 159 = .ok (.laload, 1) := by decide +kernel
theorem dX8_agreed_160 : decode cX8_agreed 160 = .ok (.aload_n 0, 1) := by decide +kernel
theorem dX8_agreed_161 : decode cX8_agreed 161 = .ok (.getfield 70, 3) := by decide +kernel
theorem dX8_agreed_164 : decode cX8_agreed 164 = .ok (.iload 6, 2) := by decide +kernel
theorem dX8_agreed_166 : decode cX8_agreed 166 = .ok (.iaload, 1) := by decide +kernel
theorem dX8_agreed_167 : decode cX8_agreed 167 = .ok (.i2l, 1) := by decide +kernel
theorem dX8_agreed_168 : decode cX8_agreed 168 = .ok (.ladd, 1) := by decide +kernel
theorem dX8_agreed_169 : decode cX8_agreed 169 = .ok (.lastore, 1) := by decide +kernel
theorem dX8_agreed_170 : decode cX8_agreed 170 = .ok (.iload 8, 2) := by decide +kernel
theorem dX8_agreed_172 : decode cX8_agreed 172 = .ok (.ifCond .lt 23, 3) := by decide +kernel
theorem dX8_agreed_175 : decode cX8_agreed 175 = .ok (.aload_n 0, 1) := by decide +kernel
theorem dX8_agreed_176 : decode cX8_agreed 176 = .ok (.getfield 79, 3) := by decide +kernel
theorem dX8_agreed_179 : decode cX8_agreed 179 = .ok (.iconst 5, 1) := by decide +kernel
theorem dX8_agreed_180 : decode cX8_agreed 180 = .ok (.iload 8, 2) := by decide +kernel
theorem dX8_agreed_182 : decode cX8_agreed 182 = .ok (.imul, 1) := by decide +kernel
theorem dX8_agreed_183 : decode cX8_agreed 183 = .ok (.dup2, 1) := by decide +kernel
theorem dX8_agreed_184 : decode cX8_agreed 184 = .ok (.laload, 1) := by decide +kernel
theorem dX8_agreed_185 : decode cX8_agreed 185 = .ok (.aload_n 0, 1) := by decide +kernel
theorem dX8_agreed_186 : decode cX8_agreed 186 = .ok (.getfield 70, 3) := by decide +kernel
theorem dX8_agreed_189 : decode cX8_agreed 189 = .ok (.iload 6, 2) := by decide +kernel
theorem dX8_agreed_191 : decode cX8_agreed 191 = .ok (.iaload, 1) := by decide +kernel
theorem dX8_agreed_192 : decode cX8_agreed 192 = .ok (.i2l, 1) := by decide +kernel
theorem dX8_agreed_193 : decode cX8_agreed 193 = .ok (.ladd, 1) := by decide +kernel
theorem dX8_agreed_194 : decode cX8_agreed 194 = .ok (.lastore, 1) := by decide +kernel
theorem dX8_agreed_195 : decode cX8_agreed 195 = .ok (.iload 7, 2) := by decide +kernel
theorem dX8_agreed_197 : decode cX8_agreed 197 = .ok (.ifCond .lt 54, 3) := by decide +kernel
theorem dX8_agreed_200 : decode cX8_agreed 200 = .ok (.iload 8, 2) := by decide +kernel
theorem dX8_agreed_202 : decode cX8_agreed 202 = .ok (.ifCond .lt 49, 3) := by decide +kernel
theorem dX8_agreed_205 : decode cX8_agreed 205 = .ok (.aload_n 0, 1) := by decide +kernel
theorem dX8_agreed_206 : decode cX8_agreed 206 = .ok (.getfield 79, 3) := by decide +kernel
theorem dX8_agreed_209 : decode cX8_agreed 209 = .ok (.iconst 4, 1) := by decide +kernel
theorem dX8_agreed_210 : decode cX8_agreed 210 = .ok (.iload 7, 2) := by decide +kernel
theorem dX8_agreed_212 : decode cX8_agreed 212 = .ok (.imul, 1) := by decide +kernel
theorem dX8_agreed_213 : decode cX8_agreed 213 = .ok (.iload 8, 2) := by decide +kernel
theorem dX8_agreed_215 : decode cX8_agreed 215 = .ok (.iadd, 1) := by decide +kernel
theorem dX8_agreed_216 : decode cX8_agreed 216 = .ok (.dup2, 1) := by decide +kernel
theorem dX8_agreed_217 : decode cX8_agreed 217 = .ok (.laload, 1) := by decide +kernel
theorem dX8_agreed_218 : decode cX8_agreed 218 = .ok (.aload_n 0, 1) := by decide +kernel
theorem dX8_agreed_219 : decode cX8_agreed 219 = .ok (.getfield 70, 3) := by decide +kernel
theorem dX8_agreed_222 : decode cX8_agreed 222 = .ok (.iload 6, 2) := by decide +kernel
theorem dX8_agreed_224 : decode cX8_agreed 224 = .ok (.iaload, 1) := by decide +kernel
theorem dX8_agreed_225 : decode cX8_agreed 225 = .ok (.i2l, 1) := by decide +kernel
theorem dX8_agreed_226 : decode cX8_agreed 226 = .ok (.lsub, 1) := by decide +kernel
theorem dX8_agreed_227 : decode cX8_agreed 227 = .ok (.lastore, 1) := by decide +kernel
theorem dX8_agreed_228 : decode cX8_agreed 228 = .ok (.aload_n 0, 1) := by decide +kernel
theorem dX8_agreed_229 : decode cX8_agreed 229 = .ok (.getfield 79, 3) := by decide +kernel
theorem dX8_agreed_232 : decode cX8_agreed 232 = .ok (.iconst 4, 1) := by decide +kernel
theorem dX8_agreed_233 : decode cX8_agreed 233 = .ok (.iload 8, 2) := by decide +kernel
theorem dX8_agreed_235 : decode cX8_agreed 235 = .ok (.imul, 1) := by decide +kernel
theorem dX8_agreed_236 : decode cX8_agreed 236 = .ok (.iload 7, 2) := by decide +kernel
theorem dX8_agreed_238 : decode cX8_agreed 238 = .ok (.iadd, 1) := by decide +kernel
theorem dX8_agreed_239 : decode cX8_agreed 239 = .ok (.dup2, 1) := by decide +kernel
theorem dX8_agreed_240 : decode cX8_agreed 240 = .ok (.laload, 1) := by decide +kernel
theorem dX8_agreed_241 : decode cX8_agreed 241 = .ok (.aload_n 0, 1) := by decide +kernel
theorem dX8_agreed_242 : decode cX8_agreed 242 = .ok (.getfield 70, 3) := by decide +kernel
theorem dX8_agreed_245 : decode cX8_agreed 245 = .ok (.iload 6, 2) := by decide +kernel
theorem dX8_agreed_247 : decode cX8_agreed 247 = .ok (.iaload, 1) := by decide +kernel
theorem dX8_agreed_248 : decode cX8_agreed 248 = .ok (.i2l, 1) := by decide +kernel
theorem dX8_agreed_249 : decode cX8_agreed 249 = .ok (.lsub, 1) := by decide +kernel
theorem dX8_agreed_250 : decode cX8_agreed 250 = .ok (.lastore, 1) := by decide +kernel
theorem dX8_agreed_251 : decode cX8_agreed 251 = .ok (.iinc 6 1, 3) := by decide +kernel
theorem dX8_agreed_254 : decode cX8_agreed 254 = .ok (.goto (-157), 3) := by decide +kernel
theorem dX8_agreed_257 : decode cX8_agreed 257 = .ok (.iconst 0, 1) := by decide +kernel
theorem dX8_agreed_258 : decode cX8_agreed 258 = .ok (.istore 6, 2) := by decide +kernel
theorem dX8_agreed_260 : decode cX8_agreed 260 = .ok (.iload 6, 2) := by decide +kernel
theorem dX8_agreed_262 : decode cX8_agreed 262 = .ok (.iconst 4, 1) := by decide +kernel
theorem dX8_agreed_263 : decode cX8_agreed 263 = .ok (.if_icmp .ge 37, 3) := by decide +kernel
theorem dX8_agreed_266 : decode cX8_agreed 266 = .ok (.aload_n 0, 1) := by decide +kernel
theorem dX8_agreed_267 : decode cX8_agreed 267 = .ok (.getfield 73, 3) := by decide +kernel
theorem dX8_agreed_270 : decode cX8_agreed 270 = .ok (.iload 6, 2) := by decide +kernel
theorem dX8_agreed_272 : decode cX8_agreed 272 = .ok (.iaload, 1) := by decide +kernel
theorem dX8_agreed_273 : decode cX8_agreed 273 = .ok (.ifCond .lt 21, 3) := by decide +kernel
theorem dX8_agreed_276 : decode cX8_agreed 276 = .ok (.aload_n 0, 1) := by decide +kernel
theorem dX8_agreed_277 : decode cX8_agreed 277 = .ok (.getfield 82, 3) := by decide +kernel
theorem dX8_agreed_280 : decode cX8_agreed 280 = .ok (.aload_n 0, 1) := by decide +kernel
theorem dX8_agreed_281 : decode cX8_agreed 281 = .ok (.getfield 73, 3) := by decide +kernel
theorem dX8_agreed_284 : decode cX8_agreed 284 = .ok (.iload 6, 2) := by decide +kernel
theorem dX8_agreed_286 : decode cX8_agreed 286 = .ok (.iaload, 1) := by decide +kernel
theorem dX8_agreed_287 : decode cX8_agreed 287 = .ok (.aload_n 0, 1) := by decide +kernel
theorem dX8_agreed_288 : decode cX8_agreed 288 = .ok (.iload 6, 2) := by decide +kernel
theorem dX8_agreed_290 : decode cX8_agreed 290 = .ok (.invokevirtual 206, 3) := by decide +kernel
theorem dX8_agreed_293 : decode cX8_agreed 293 = .ok (.lastore, 1) := by decide +kernel
theorem dX8_agreed_294 : decode cX8_agreed 294 = .ok (.iinc 6 1, 3) := by decide +kernel
theorem dX8_agreed_297 : decode cX8_agreed 297 = .ok (.goto (-37), 3) := by decide +kernel
theorem dX8_agreed_300 : decode cX8_agreed 300 = .ok (.aload_n 0, 1) := by decide +kernel
theorem dX8_agreed_301 : decode cX8_agreed 301 = .ok (.iload 5, 2) := by decide +kernel
theorem dX8_agreed_303 : decode cX8_agreed 303 = .ok (.iconst (-1), 1) := by decide +kernel
theorem dX8_agreed_304 : decode cX8_agreed 304 = .ok (.invokevirtual 215, 3) := by decide +kernel
theorem dX8_agreed_307 : decode cX8_agreed 307 = .ok (.lstore 6, 2) := by decide +kernel
theorem dX8_agreed_309 : decode cX8_agreed 309 = .ok (.iconst 0, 1) := by decide +kernel
theorem dX8_agreed_310 : decode cX8_agreed 310 = .ok (.istore 8, 2) := by decide +kernel
theorem dX8_agreed_312 : decode cX8_agreed 312 = .ok (.iload 8, 2) := by decide +kernel
theorem dX8_agreed_314 : decode cX8_agreed 314 = .ok (.bipush 8, 2) := by decide +kernel
theorem dX8_agreed_316 : decode cX8_agreed 316 = .ok (.if_icmp .ge 43, 3) := by decide +kernel
theorem dX8_agreed_319 : decode cX8_agreed 319 = .ok (.aload_n 0, 1) := by decide +kernel
theorem dX8_agreed_320 : decode cX8_agreed 320 = .ok (.getfield 85, 3) := by decide +kernel
theorem dX8_agreed_323 : decode cX8_agreed 323 = .ok (.iload 8, 2) := by decide +kernel
theorem dX8_agreed_325 : decode cX8_agreed 325 = .ok (.aload_n 0, 1) := by decide +kernel
theorem dX8_agreed_326 : decode cX8_agreed 326 = .ok (.getfield 73, 3) := by decide +kernel
theorem dX8_agreed_329 : decode cX8_agreed 329 = .ok (.iload 8, 2) := by decide +kernel
theorem dX8_agreed_331 : decode cX8_agreed 331 = .ok (.iaload, 1) := by decide +kernel
theorem dX8_agreed_332 : decode cX8_agreed 332 = .ok (.ifCond .lt 19, 3) := by decide +kernel
theorem dX8_agreed_335 : decode cX8_agreed 335 = .ok (.aload_n 0, 1) := by decide +kernel
theorem dX8_agreed_336 : decode cX8_agreed 336 = .ok (.iload 5, 2) := by decide +kernel
theorem dX8_agreed_338 : decode cX8_agreed 338 = .ok (.aload_n 0, 1) := by decide +kernel
theorem dX8_agreed_339 : decode cX8_agreed 339 = .ok (.getfield 73, 3) := by decide +kernel
theorem dX8_agreed_342 : decode cX8_agreed 342 = .ok (.iload 8, 2) := by decide +kernel
theorem dX8_agreed_344 : decode cX8_agreed 344 = .ok (.iaload, 1) := by decide +kernel
theorem dX8_agreed_345 : decode cX8_agreed 345 = .ok (.invokevirtual 215, 3) := by decide +kernel
theorem dX8_agreed_348 : decode cX8_agreed 348 = .ok (.goto 4, 3) := by decide +kernel
theorem dX8_agreed_351 : decode cX8_agreed 351 = .ok (.lconst 0, 1) := by decide +kernel
theorem dX8_agreed_352 : decode cX8_agreed 352 = .ok (.lastore, 1) := by decide +kernel
theorem dX8_agreed_353 : decode cX8_agreed 353 = .ok (.iinc 8 1, 3) := by decide +kernel
theorem dX8_agreed_356 : decode cX8_agreed 356 = .ok (.goto (-44), 3) := by decide +kernel
theorem dX8_agreed_359 : decode cX8_agreed 359 = .ok (.aload_n 0, 1) := by decide +kernel
theorem dX8_agreed_360 : decode cX8_agreed 360 = .ok (.aload_n 0, 1) := by decide +kernel
theorem dX8_agreed_361 : decode cX8_agreed 361 = .ok (.getfield 67, 3) := by decide +kernel
theorem dX8_agreed_364 : decode cX8_agreed 364 = .ok (.iload_n 1, 1) := by decide +kernel
theorem dX8_agreed_365 : decode cX8_agreed 365 = .ok (.iaload, 1) := by decide +kernel
theorem dX8_agreed_366 : decode cX8_agreed 366 = .ok (.i2l, 1) := by decide +kernel
theorem dX8_agreed_367 : decode cX8_agreed 367 = .ok (.lload 6, 2) := by decide +kernel
theorem dX8_agreed_369 : decode cX8_agreed 369 = .ok (.lmul, 1) := by decide +kernel
theorem dX8_agreed_370 : decode cX8_agreed 370 = .ok (.aload_n 0, 1) := by decide +kernel
theorem dX8_agreed_371 : decode cX8_agreed 371 = .ok (.getfield 70, 3) := by decide +kernel
theorem dX8_agreed_374 : decode cX8_agreed 374 = .ok (.iload_n 1, 1) := by decide +kernel
theorem dX8_agreed_375 : decode cX8_agreed 375 = .ok (.iaload, 1) := by decide +kernel
theorem dX8_agreed_376 : decode cX8_agreed 376 = .ok (.i2l, 1) := by decide +kernel
theorem dX8_agreed_377 : decode cX8_agreed 377 = .ok (.aload_n 0, 1) := by decide +kernel
theorem dX8_agreed_378 : decode cX8_agreed 378 = .ok (.getfield 85, 3) := by decide +kernel
theorem dX8_agreed_381 : decode cX8_agreed 381 = .ok (.aload_n 0, 1) := by decide +kernel
theorem dX8_agreed_382 : decode cX8_agreed 382 = .ok (.getfield 24, 3) := by decide +kernel
theorem dX8_agreed_385 : decode cX8_agreed 385 = .ok (.iload_n 1, 1) := by decide +kernel
theorem dX8_agreed_386 : decode cX8_agreed 386 = .ok (.iaload, 1) := by decide +kernel
theorem dX8_agreed_387 : decode cX8_agreed 387 = .ok (.laload, 1) := by decide +kernel
theorem dX8_agreed_388 : decode cX8_agreed 388 = .ok (.aload_n 0, 1) := by decide +kernel
theorem dX8_agreed_389 : decode cX8_agreed 389 = .ok (.getfield 85, 3) := by decide +kernel
theorem dX8_agreed_392 : decode cX8_agreed 392 = .ok (.aload_n 0, 1) := by decide +kernel
theorem dX8_agreed_393 : decode cX8_agreed 393 = .ok (.getfield 20, 3) := by decide +kernel
theorem dX8_agreed_396 : decode cX8_agreed 396 = .ok (.iload_n 1, 1) := by decide +kernel
theorem dX8_agreed_397 : decode cX8_agreed 397 = .ok (.iaload, 1) := by decide +kernel
theorem dX8_agreed_398 : decode cX8_agreed 398 = .ok (.laload, 1) := by decide +kernel
theorem dX8_agreed_399 : decode cX8_agreed 399 = .ok (.lsub, 1) := by decide +kernel
theorem dX8_agreed_400 : decode cX8_agreed 400 = .ok (.lmul, 1) := by decide +kernel
theorem dX8_agreed_401 : decode cX8_agreed 401 = .ok (.lsub, 1) := by decide +kernel
theorem dX8_agreed_402 : decode cX8_agreed 402 = .ok (.lload 6, 2) := by decide +kernel
theorem dX8_agreed_404 : decode cX8_agreed 404 = .ok (.invokevirtual 188, 3) := by decide +kernel
theorem dX8_agreed_407 : decode cX8_agreed 407 = .ok (.iload_n 3, 1) := by decide +kernel
theorem dX8_agreed_408 : decode cX8_agreed 408 = .ok (.ifCond .ne 10, 3) := by decide +kernel
theorem dX8_agreed_411 : decode cX8_agreed 411 = .ok (.aload_n 0, 1) := by decide +kernel
theorem dX8_agreed_412 : decode cX8_agreed 412 = .ok (.getfield 182, 3) := by decide +kernel
theorem dX8_agreed_415 : decode cX8_agreed 415 = .ok (.goto 7, 3) := by decide +kernel
theorem dX8_agreed_418 : decode cX8_agreed 418 = .ok (.aload_n 0, 1) := by decide +kernel
theorem dX8_agreed_419 : decode cX8_agreed 419 = .ok (.getfield 185, 3) := by decide +kernel
theorem dX8_agreed_422 : decode cX8_agreed 422 = .ok (.lreturn, 1) := by decide +kernel
theorem dX8_told_0 : decode cX8_told 0 = .ok (.aload_n 0, 1) := by decide +kernel
theorem dX8_told_1 : decode cX8_told 1 = .ok (.iconst 0, 1) := by decide +kernel
theorem dX8_told_2 : decode cX8_told 2 = .ok (.putfield 91, 3) := by decide +kernel
theorem dX8_told_5 : decode cX8_told 5 = .ok (.iload_n 1, 1) := by decide +kernel
theorem dX8_told_6 : decode cX8_told 6 = .ok (.tableswitch 80 0 3 #[30, 65, 70, 75], 30) := by decide +kernel
theorem dX8_told_36 : decode cX8_told 36 = .ok (.iconst 0, 1) := by decide +kernel
theorem dX8_told_37 : decode cX8_told 37 = .ok (.istore_n 2, 1) := by decide +kernel
theorem dX8_told_38 : decode cX8_told 38 = .ok (.iconst 0, 1) := by decide +kernel
theorem dX8_told_39 : decode cX8_told 39 = .ok (.istore_n 3, 1) := by decide +kernel
theorem dX8_told_40 : decode cX8_told 40 = .ok (.iload_n 3, 1) := by decide +kernel
theorem dX8_told_41 : decode cX8_told 41 = .ok (.bipush 16, 2) := by decide +kernel
theorem dX8_told_43 : decode cX8_told 43 = .ok (.if_icmp .ge 26, 3) := by decide +kernel
theorem dX8_told_46 : decode cX8_told 46 = .ok (.iload_n 2, 1) := by decide +kernel
theorem dX8_told_47 : decode cX8_told 47 = .ok (.aload_n 0, 1) := by decide +kernel
theorem dX8_told_48 : decode cX8_told 48 = .ok (.getfield 13, 3) := by decide +kernel
theorem dX8_told_51 : decode cX8_told 51 = .ok (.iload_n 3, 1) := by decide +kernel
theorem dX8_told_52 : decode cX8_told 52 = .ok (.baload, 1) := by decide +kernel
theorem dX8_told_53 : decode cX8_told 53 = .ok (.ifCond .eq 7, 3) := by decide +kernel
theorem dX8_told_56 : decode cX8_told 56 = .ok (.iconst 1, 1) := by decide +kernel
theorem dX8_told_57 : decode cX8_told 57 = .ok (.goto 4, 3) := by decide +kernel
theorem dX8_told_60 : decode cX8_told 60 = .ok (.iconst 0, 1) := by decide +kernel
theorem dX8_told_61 : decode cX8_told 61 = .ok (.iadd, 1) := by decide +kernel
theorem dX8_told_62 : decode cX8_told 62 = .ok (.istore_n 2, 1) := by decide +kernel
theorem dX8_told_63 : decode cX8_told 63 = .ok (.iinc 3 1, 3) := by decide +kernel
theorem dX8_told_66 : decode cX8_told 66 = .ok (.goto (-26), 3) := by decide +kernel
theorem dX8_told_69 : decode cX8_told 69 = .ok (.iload_n 2, 1) := by decide +kernel
theorem dX8_told_70 : decode cX8_told 70 = .ok (.ireturn, 1) := by decide +kernel
theorem dX8_told_71 : decode cX8_told 71 = .ok (.aload_n 0, 1) := by decide +kernel
theorem dX8_told_72 : decode cX8_told 72 = .ok (.getfield 102, 3) := by decide +kernel
theorem dX8_told_75 : decode cX8_told 75 = .ok (.ireturn, 1) := by decide +kernel
theorem dX8_told_76 : decode cX8_told 76 = .ok (.aload_n 0, 1) := by decide +kernel
theorem dX8_told_77 : decode cX8_told 77 = .ok (.getfield 105, 3) := by decide +kernel
theorem dX8_told_80 : decode cX8_told 80 = .ok (.ireturn, 1) := by decide +kernel
theorem dX8_told_81 : decode cX8_told 81 = .ok (.aload_n 0, 1) := by decide +kernel
theorem dX8_told_82 : decode cX8_told 82 = .ok (.getfield 95, 3) := by decide +kernel
theorem dX8_told_85 : decode cX8_told 85 = .ok (.ireturn, 1) := by decide +kernel
theorem dX8_told_86 : decode cX8_told 86 = .ok (.iconst (-1), 1) := by decide +kernel
theorem dX8_told_87 : decode cX8_told 87 = .ok (.ireturn, 1) := by decide +kernel
