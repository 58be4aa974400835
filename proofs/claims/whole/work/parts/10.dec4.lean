theorem dX10_degreeOf_84 : decode cX10_degreeOf 84 = .ok (.iload_n 1, 1) := by decide +kernel
theorem dX10_degreeOf_85 : decode cX10_degreeOf 85 = .ok (.iload 4, 2) := by decide +kernel
theorem dX10_degreeOf_87 : decode cX10_degreeOf 87 = .ok (.bipush 6, 2) := by decide +kernel
theorem dX10_degreeOf_89 : decode cX10_degreeOf 89 = .ok (.if_icmp .ne 12, 3) := by decide +kernel
theorem dX10_degreeOf_92 : decode cX10_degreeOf 92 = .ok (.aload_n 0, 1) := by decide +kernel
theorem dX10_degreeOf_93 : decode cX10_degreeOf 93 = .ok (.iload_n 1, 1) := by decide +kernel
theorem dX10_degreeOf_94 : decode cX10_degreeOf 94 = .ok (.iload_n 2, 1) := by decide +kernel
theorem dX10_degreeOf_95 : decode cX10_degreeOf 95 = .ok (.invokevirtual 233, 3) := by decide +kernel
theorem dX10_degreeOf_98 : decode cX10_degreeOf 98 = .ok (.goto 9, 3) := by decide +kernel
theorem dX10_degreeOf_101 : decode cX10_degreeOf 101 = .ok (.aload_n 0, 1) := by decide +kernel
theorem dX10_degreeOf_102 : decode cX10_degreeOf 102 = .ok (.iload_n 1, 1) := by decide +kernel
theorem dX10_degreeOf_103 : decode cX10_degreeOf 103 = .ok (.iload_n 2, 1) := by decide +kernel
theorem dX10_degreeOf_104 : decode cX10_degreeOf 104 = .ok (.invokevirtual 109, 3) := by decide +kernel
theorem dX10_degreeOf_107 : decode cX10_degreeOf 107 = .ok (.iload_n 3, 1) := by decide +kernel
theorem dX10_degreeOf_108 : decode cX10_degreeOf 108 = .ok (.invokevirtual 331, 3) := by decide +kernel
theorem dX10_degreeOf_111 : decode cX10_degreeOf 111 = .ok (.istore 6, 2) := by decide +kernel
theorem dX10_degreeOf_113 : decode cX10_degreeOf 113 = .ok (.iload 5, 2) := by decide +kernel
theorem dX10_degreeOf_115 : decode cX10_degreeOf 115 = .ok (.iconst (-1), 1) := by decide +kernel
theorem dX10_degreeOf_116 : decode cX10_degreeOf 116 = .ok (.if_icmp .eq 28, 3) := by decide +kernel
theorem dX10_degreeOf_119 : decode cX10_degreeOf 119 = .ok (.iload 6, 2) := by decide +kernel
theorem dX10_degreeOf_121 : decode cX10_degreeOf 121 = .ok (.iconst (-1), 1) := by decide +kernel
theorem dX10_degreeOf_122 : decode cX10_degreeOf 122 = .ok (.if_icmp .eq 22, 3) := by decide +kernel
theorem dX10_degreeOf_125 : decode cX10_degreeOf 125 = .ok (.iload 4, 2) := by decide +kernel
theorem dX10_degreeOf_127 : decode cX10_degreeOf 127 = .ok (.bipush 6, 2) := by decide +kernel
theorem dX10_degreeOf_129 : decode cX10_degreeOf 129 = .ok (.if_icmp .ne 17, 3) := by decide +kernel
theorem dX10_degreeOf_132 : decode cX10_degreeOf 132 = .ok (.aload_n 0, 1) := by decide +kernel
theorem dX10_degreeOf_133 : decode cX10_degreeOf 133 = .ok (.iload_n 1, 1) := by decide +kernel
theorem dX10_degreeOf_134 : decode cX10_degreeOf 134 = .ok (.iload_n 2, 1) := by decide +kernel
theorem dX10_degreeOf_135 : decode cX10_degreeOf 135 = .ok (.iconst 1, 1) := by decide +kernel
theorem dX10_degreeOf_136 : decode cX10_degreeOf 136 = .ok (.iadd, 1) := by decide +kernel
theorem dX10_degreeOf_137 : decode cX10_degreeOf 137 = .ok (.iload_n 3, 1) := by decide +kernel
theorem dX10_degreeOf_138 : decode cX10_degreeOf 138 = .ok (.invokevirtual 334, 3) := by decide +kernel
theorem dX10_degreeOf_141 : decode cX10_degreeOf 141 = .ok (.ifCond .eq 5, 3) := by decide +kernel
theorem dX10_degreeOf_144 : decode cX10_degreeOf 144 = .ok (.iconst (-1), 1) := by decide +kernel
theorem dX10_degreeOf_145 : decode cX10_degreeOf 145 = .ok (.ireturn, 1) := by decide +kernel
theorem dX10_degreeOf_146 : decode cX10_degreeOf 146 = .ok (.iload 4, 2) := by decide +kernel
theorem dX10_degreeOf_148 : decode cX10_degreeOf 148 = .ok (.iconst 3, 1) := by decide +kernel
theorem dX10_degreeOf_149 : decode cX10_degreeOf 149 = .ok (.if_icmp .eq 10, 3) := by decide +kernel
theorem dX10_degreeOf_152 : decode cX10_degreeOf 152 = .ok (.iload 4, 2) := by decide +kernel
theorem dX10_degreeOf_154 : decode cX10_degreeOf 154 = .ok (.bipush 6, 2) := by decide +kernel
theorem dX10_degreeOf_156 : decode cX10_degreeOf 156 = .ok (.if_icmp .ne 13, 3) := by decide +kernel
theorem dX10_degreeOf_159 : decode cX10_degreeOf 159 = .ok (.iload 5, 2) := by decide +kernel
theorem dX10_degreeOf_161 : decode cX10_degreeOf 161 = .ok (.iload 6, 2) := by decide +kernel
theorem dX10_degreeOf_163 : decode cX10_degreeOf 163 = .ok (.invokestatic 284, 3) := by decide +kernel
theorem dX10_degreeOf_166 : decode cX10_degreeOf 166 = .ok (.goto 54, 3) := by decide +kernel
theorem dX10_degreeOf_169 : decode cX10_degreeOf 169 = .ok (.iload 4, 2) := by decide +kernel
theorem dX10_degreeOf_171 : decode cX10_degreeOf 171 = .ok (.iconst 4, 1) := by decide +kernel
theorem dX10_degreeOf_172 : decode cX10_degreeOf 172 = .ok (.if_icmp .ne 11, 3) := by decide +kernel
theorem dX10_degreeOf_175 : decode cX10_degreeOf 175 = .ok (.iload 5, 2) := by decide +kernel
theorem dX10_degreeOf_177 : decode cX10_degreeOf 177 = .ok (.iload 6, 2) := by decide +kernel
theorem dX10_degreeOf_179 : decode cX10_degreeOf 179 = .ok (.iadd, 1) := by decide +kernel
theorem dX10_degreeOf_180 : decode cX10_degreeOf 180 = .ok (.goto 40, 3) := by decide +kernel
theorem dX10_degreeOf_183 : decode cX10_degreeOf 183 = .ok (.iload 4, 2) := by decide +kernel
theorem dX10_degreeOf_185 : decode cX10_degreeOf 185 = .ok (.iconst 5, 1) := by decide +kernel
theorem dX10_degreeOf_186 : decode cX10_degreeOf 186 = .ok (.if_icmp .ne 18, 3) := by decide +kernel
theorem dX10_degreeOf_189 : decode cX10_degreeOf 189 = .ok (.iload 5, 2) := by decide +kernel
theorem dX10_degreeOf_191 : decode cX10_degreeOf 191 = .ok (.aload_n 0, 1) := by decide +kernel
theorem dX10_degreeOf_192 : decode cX10_degreeOf 192 = .ok (.getfield 20, 3) := by decide +kernel
theorem dX10_degreeOf_195 : decode cX10_degreeOf 195 = .ok (.iload_n 1, 1) := by decide +kernel
theorem dX10_degreeOf_196 : decode cX10_degreeOf 196 = .ok (.aaload, 1) := by decide +kernel
theorem dX10_degreeOf_197 : decode cX10_degreeOf 197 = .ok (.iload_n 2, 1) := by decide +kernel
theorem dX10_degreeOf_198 : decode cX10_degreeOf 198 = .ok (.laload, 1) := by decide +kernel
theorem dX10_degreeOf_199 : decode cX10_degreeOf 199 = .ok (.l2i, 1) := by decide +kernel
theorem dX10_degreeOf_200 : decode cX10_degreeOf 200 = .ok (.imul, 1) := by decide +kernel
theorem dX10_degreeOf_201 : decode cX10_degreeOf 201 = .ok (.goto 19, 3) := by decide +kernel
theorem dX10_degreeOf_204 : decode cX10_degreeOf 204 = .ok (.iload 4, 2) := by decide +kernel
theorem dX10_degreeOf_206 : decode cX10_degreeOf 206 = .ok (.bipush 7, 2) := by decide +kernel
theorem dX10_degreeOf_208 : decode cX10_degreeOf 208 = .ok (.if_icmp .ne 10, 3) := by decide +kernel
theorem dX10_degreeOf_211 : decode cX10_degreeOf 211 = .ok (.iconst 2, 1) := by decide +kernel
theorem dX10_degreeOf_212 : decode cX10_degreeOf 212 = .ok (.iload 5, 2) := by decide +kernel
theorem dX10_degreeOf_214 : decode cX10_degreeOf 214 = .ok (.imul, 1) := by decide +kernel
theorem dX10_degreeOf_215 : decode cX10_degreeOf 215 = .ok (.goto 5, 3) := by decide +kernel
theorem dX10_degreeOf_218 : decode cX10_degreeOf 218 = .ok (.iload 5, 2) := by decide +kernel
theorem dX10_degreeOf_220 : decode cX10_degreeOf 220 = .ok (.istore 7, 2) := by decide +kernel
theorem dX10_degreeOf_222 : decode cX10_degreeOf 222 = .ok (.sipush 9999, 3) := by decide +kernel
theorem dX10_degreeOf_225 : decode cX10_degreeOf 225 = .ok (.iload 7, 2) := by decide +kernel
theorem dX10_degreeOf_227 : decode cX10_degreeOf 227 = .ok (.invokestatic 299, 3) := by decide +kernel
theorem dX10_degreeOf_230 : decode cX10_degreeOf 230 = .ok (.ireturn, 1) := by decide +kernel
theorem dX10_degree_0 : decode cX10_degree 0 = .ok (.iload_n 1, 1) := by decide +kernel
theorem dX10_degree_1 : decode cX10_degree 1 = .ok (.invokestatic 181, 3) := by decide +kernel
theorem dX10_degree_4 : decode cX10_degree 4 = .ok (.ifCond .eq 10, 3) := by decide +kernel
theorem dX10_degree_7 : decode cX10_degree 7 = .ok (.iload_n 2, 1) := by decide +kernel
theorem dX10_degree_8 : decode cX10_degree 8 = .ok (.invokestatic 189, 3) := by decide +kernel
theorem dX10_degree_11 : decode cX10_degree 11 = .ok (.ifCond .ne 6, 3) := by decide +kernel
theorem dX10_degree_14 : decode cX10_degree 14 = .ok (.bipush (-2), 2) := by decide +kernel
theorem dX10_degree_16 : decode cX10_degree 16 = .ok (.ireturn, 1) := by decide +kernel
theorem dX10_degree_17 : decode cX10_degree 17 = .ok (.aload_n 0, 1) := by decide +kernel
theorem dX10_degree_18 : decode cX10_degree 18 = .ok (.getfield 9, 3) := by decide +kernel
theorem dX10_degree_21 : decode cX10_degree 21 = .ok (.iload_n 1, 1) := by decide +kernel
theorem dX10_degree_22 : decode cX10_degree 22 = .ok (.iaload, 1) := by decide +kernel
theorem dX10_degree_23 : decode cX10_degree 23 = .ok (.ifCond .ne 8, 3) := by decide +kernel
theorem dX10_degree_26 : decode cX10_degree 26 = .ok (.bipush (-3), 2) := by decide +kernel
theorem dX10_degree_28 : decode cX10_degree 28 = .ok (.goto 10, 3) := by decide +kernel
theorem dX10_degree_31 : decode cX10_degree 31 = .ok (.aload_n 0, 1) := by decide +kernel
theorem dX10_degree_32 : decode cX10_degree 32 = .ok (.iload_n 1, 1) := by decide +kernel
theorem dX10_degree_33 : decode cX10_degree 33 = .ok (.iconst 0, 1) := by decide +kernel
theorem dX10_degree_34 : decode cX10_degree 34 = .ok (.iload_n 2, 1) := by decide +kernel
theorem dX10_degree_35 : decode cX10_degree 35 = .ok (.invokevirtual 331, 3) := by decide +kernel
theorem dX10_degree_38 : decode cX10_degree 38 = .ok (.ireturn, 1) := by decide +kernel
theorem dX10_sought_0 : decode cX10_sought 0 = .ok (.iload_n 1, 1) := by decide +kernel
theorem dX10_sought_1 : decode cX10_sought 1 = .ok (.invokestatic 181, 3) := by decide +kernel
theorem dX10_sought_4 : decode cX10_sought 4 = .ok (.ifCond .eq 31, 3) := by decide +kernel
theorem dX10_sought_7 : decode cX10_sought 7 = .ok (.iload_n 2, 1) := by decide +kernel
theorem dX10_sought_8 : decode cX10_sought 8 = .ok (.invokestatic 189, 3) := by decide +kernel
theorem dX10_sought_11 : decode cX10_sought 11 = .ok (.ifCond .eq 24, 3) := by decide +kernel
theorem dX10_sought_14 : decode cX10_sought 14 = .ok (.iload 4, 2) := by decide +kernel
theorem dX10_sought_16 : decode cX10_sought 16 = .ok (.iconst 1, 1) := by decide +kernel
theorem dX10_sought_17 : decode cX10_sought 17 = .ok (.bipush 100, 2) := by decide +kernel
theorem dX10_sought_19 : decode cX10_sought 19 = .ok (.invokestatic 84, 3) := by decide +kernel
theorem dX10_sought_22 : decode cX10_sought 22 = .ok (.ifCond .eq 13, 3) := by decide +kernel
theorem dX10_sought_25 : decode cX10_sought 25 = .ok (.iload 6, 2) := by decide +kernel
theorem dX10_sought_27 : decode cX10_sought 27 = .ok (.iconst 0, 1) := by decide +kernel
theorem dX10_sought_28 : decode cX10_sought 28 = .ok (.iconst 1, 1) := by decide +kernel
theorem dX10_sought_29 : decode cX10_sought 29 = .ok (.invokestatic 84, 3) := by decide +kernel
theorem dX10_sought_32 : decode cX10_sought 32 = .ok (.ifCond .ne 6, 3) := by decide +kernel
theorem dX10_sought_35 : decode cX10_sought 35 = .ok (.bipush (-2), 2) := by decide +kernel
theorem dX10_sought_37 : decode cX10_sought 37 = .ok (.ireturn, 1) := by decide +kernel
theorem dX10_sought_38 : decode cX10_sought 38 = .ok (.aload_n 0, 1) := by decide +kernel
theorem dX10_sought_39 : decode cX10_sought 39 = .ok (.getfield 9, 3) := by decide +kernel
theorem dX10_sought_42 : decode cX10_sought 42 = .ok (.iload_n 1, 1) := by decide +kernel
theorem dX10_sought_43 : decode cX10_sought 43 = .ok (.iaload, 1) := by decide +kernel
theorem dX10_sought_44 : decode cX10_sought 44 = .ok (.ifCond .ne 6, 3) := by decide +kernel
theorem dX10_sought_47 : decode cX10_sought 47 = .ok (.bipush (-3), 2) := by decide +kernel
theorem dX10_sought_49 : decode cX10_sought 49 = .ok (.ireturn, 1) := by decide +kernel
theorem dX10_sought_50 : decode cX10_sought 50 = .ok (.aload_n 0, 1) := by decide +kernel
theorem dX10_sought_51 : decode cX10_sought 51 = .ok (.getfield 26, 3) := by decide +kernel
theorem dX10_sought_54 : decode cX10_sought 54 = .ok (.iload_n 2, 1) := by decide +kernel
theorem dX10_sought_55 : decode cX10_sought 55 = .ok (.iaload, 1) := by decide +kernel
theorem dX10_sought_56 : decode cX10_sought 56 = .ok (.istore 7, 2) := by decide +kernel
theorem dX10_sought_58 : decode cX10_sought 58 = .ok (.iconst 0, 1) := by decide +kernel
theorem dX10_sought_59 : decode cX10_sought 59 = .ok (.istore 8, 2) := by decide +kernel
theorem dX10_sought_61 : decode cX10_sought 61 = .ok (.iconst 0, 1) := by decide +kernel
theorem dX10_sought_62 : decode cX10_sought 62 = .ok (.istore 9, 2) := by decide +kernel
theorem dX10_sought_64 : decode cX10_sought 64 = .ok (.iconst 0, 1) := by decide +kernel
theorem dX10_sought_65 : decode cX10_sought 65 = .ok (.istore 10, 2) := by decide +kernel
theorem dX10_sought_67 : decode cX10_sought 67 = .ok (.iload 10, 2) := by decide +kernel
theorem dX10_sought_69 : decode cX10_sought 69 = .ok (.iload 4, 2) := by decide +kernel
theorem dX10_sought_71 : decode cX10_sought 71 = .ok (.if_icmp .ge 53, 3) := by decide +kernel
theorem dX10_sought_74 : decode cX10_sought 74 = .ok (.aload_n 0, 1) := by decide +kernel
theorem dX10_sought_75 : decode cX10_sought 75 = .ok (.getfield 26, 3) := by decide +kernel
theorem dX10_sought_78 : decode cX10_sought 78 = .ok (.iload_n 2, 1) := by decide +kernel
theorem dX10_sought_79 : decode cX10_sought 79 = .ok (.iload_n 3, 1) := by decide +kernel
theorem dX10_sought_80 : decode cX10_sought 80 = .ok (.iload 10, 2) := by decide +kernel
theorem dX10_sought_82 : decode cX10_sought 82 = .ok (.iadd, 1) := by decide +kernel
theorem dX10_sought_83 : decode cX10_sought 83 = .ok (.iastore, 1) := by decide +kernel
theorem dX10_sought_84 : decode cX10_sought 84 = .ok (.aload_n 0, 1) := by decide +kernel
theorem dX10_sought_85 : decode cX10_sought 85 = .ok (.iload_n 1, 1) := by decide +kernel
theorem dX10_sought_86 : decode cX10_sought 86 = .ok (.invokevirtual 254, 3) := by decide +kernel
theorem dX10_sought_89 : decode cX10_sought 89 = .ok (.iload 5, 2) := by decide +kernel
theorem dX10_sought_91 : decode cX10_sought 91 = .ok (.i2l, 1) := by decide +kernel
theorem dX10_sought_92 : decode cX10_sought 92 = .ok (.lcmp, 1) := by decide +kernel
theorem dX10_sought_93 : decode cX10_sought 93 = .ok (.ifCond .eq 6, 3) := by decide +kernel
theorem dX10_sought_96 : decode cX10_sought 96 = .ok (.goto 22, 3) := by decide +kernel
theorem dX10_sought_99 : decode cX10_sought 99 = .ok (.iload 8, 2) := by decide +kernel
theorem dX10_sought_101 : decode cX10_sought 101 = .ok (.ifCond .ne 10, 3) := by decide +kernel
theorem dX10_sought_104 : decode cX10_sought 104 = .ok (.iload_n 3, 1) := by decide +kernel
theorem dX10_sought_105 : decode cX10_sought 105 = .ok (.iload 10, 2) := by decide +kernel
theorem dX10_sought_107 : decode cX10_sought 107 = .ok (.iadd, 1) := by decide +kernel
theorem dX10_sought_108 : decode cX10_sought 108 = .ok (.goto 5, 3) := by decide +kernel
theorem dX10_sought_111 : decode cX10_sought 111 = .ok (.iload 9, 2) := by decide +kernel
theorem dX10_sought_113 : decode cX10_sought 113 = .ok (.istore 9, 2) := by decide +kernel
theorem dX10_sought_115 : decode cX10_sought 115 = .ok (.iinc 8 1, 3) := by decide +kernel
theorem dX10_sought_118 : decode cX10_sought 118 = .ok (.iinc 10 1, 3) := by decide +kernel
theorem dX10_sought_121 : decode cX10_sought 121 = .ok (.goto (-54), 3) := by decide +kernel
theorem dX10_sought_124 : decode cX10_sought 124 = .ok (.aload_n 0, 1) := by decide +kernel
theorem dX10_sought_125 : decode cX10_sought 125 = .ok (.getfield 26, 3) := by decide +kernel
theorem dX10_sought_128 : decode cX10_sought 128 = .ok (.iload_n 2, 1) := by decide +kernel
theorem dX10_sought_129 : decode cX10_sought 129 = .ok (.iload 7, 2) := by decide +kernel
theorem dX10_sought_131 : decode cX10_sought 131 = .ok (.iastore, 1) := by decide +kernel
theorem dX10_sought_132 : decode cX10_sought 132 = .ok (.iload 6, 2) := by decide +kernel
theorem dX10_sought_134 : decode cX10_sought 134 = .ok (.ifCond .ne 8, 3) := by decide +kernel
theorem dX10_sought_137 : decode cX10_sought 137 = .ok (.iload 8, 2) := by decide +kernel
theorem dX10_sought_139 : decode cX10_sought 139 = .ok (.goto 5, 3) := by decide +kernel
theorem dX10_sought_142 : decode cX10_sought 142 = .ok (.iload 9, 2) := by decide +kernel
theorem dX10_sought_144 : decode cX10_sought 144 = .ok (.ireturn, 1) := by decide +kernel
theorem dX10_worthDrawn_0 : decode cX10_worthDrawn 0 = .ok (.iload_n 2, 1) := by decide +kernel
theorem dX10_worthDrawn_1 : decode cX10_worthDrawn 1 = .ok (.istore_n 3, 1) := by decide +kernel
theorem dX10_worthDrawn_2 : decode cX10_worthDrawn 2 = .ok (.iconst 0, 1) := by decide +kernel
theorem dX10_worthDrawn_3 : decode cX10_worthDrawn 3 = .ok (.istore 4, 2) := by decide +kernel
theorem dX10_worthDrawn_5 : decode cX10_worthDrawn 5 = .ok (.iload 4, 2) := by decide +kernel
theorem dX10_worthDrawn_7 : decode cX10_worthDrawn 7 = .ok (.bipush 8, 2) := by decide +kernel
theorem dX10_worthDrawn_9 : decode cX10_worthDrawn 9 = .ok (.if_icmp .ge 50, 3) := by decide +kernel
theorem dX10_worthDrawn_12 : decode cX10_worthDrawn 12 = .ok (.aload_n 0, 1) := by decide +kernel
theorem dX10_worthDrawn_13 : decode cX10_worthDrawn 13 = .ok (.getfield 54, 3) := by decide +kernel
theorem dX10_worthDrawn_16 : decode cX10_worthDrawn 16 = .ok (.iload 4, 2) := by decide +kernel
theorem dX10_worthDrawn_18 : decode cX10_worthDrawn 18 = .ok (.aload_n 0, 1) := by decide +kernel
theorem dX10_worthDrawn_19 : decode cX10_worthDrawn 19 = .ok (.getfield 26, 3) := by decide +kernel
theorem dX10_worthDrawn_22 : decode cX10_worthDrawn 22 = .ok (.iload 4, 2) := by decide +kernel
theorem dX10_worthDrawn_24 : decode cX10_worthDrawn 24 = .ok (.iaload, 1) := by decide +kernel
theorem dX10_worthDrawn_25 : decode cX10_worthDrawn 25 = .ok (.iastore, 1) := by decide +kernel
theorem dX10_worthDrawn_26 : decode cX10_worthDrawn 26 = .ok (.iload_n 3, 1) := by decide +kernel
theorem dX10_worthDrawn_27 : decode cX10_worthDrawn 27 = .ok (.ldc_w 337, 3) := by decide +kernel
theorem dX10_worthDrawn_30 : decode cX10_worthDrawn 30 = .ok (.imul, 1) := by decide +kernel
theorem dX10_worthDrawn_31 : decode cX10_worthDrawn 31 = .ok (.sipush 12345, 3) := by decide +kernel
theorem dX10_worthDrawn_34 : decode cX10_worthDrawn 34 = .ok (.iadd, 1) := by decide +kernel
theorem dX10_worthDrawn_35 : decode cX10_worthDrawn 35 = .ok (.istore_n 3, 1) := by decide +kernel
theorem dX10_worthDrawn_36 : decode cX10_worthDrawn 36 = .ok (.aload_n 0, 1) := by decide +kernel
theorem dX10_worthDrawn_37 : decode cX10_worthDrawn 37 = .ok (.getfield 26, 3) := by decide +kernel
theorem dX10_worthDrawn_40 : decode cX10_worthDrawn 40 = .ok (.iload 4, 2) := by decide +kernel
theorem dX10_worthDrawn_42 : decode cX10_worthDrawn 42 = .ok (.iload_n 3, 1) := by decide +kernel
theorem dX10_worthDrawn_43 : decode cX10_worthDrawn 43 = .ok (.bipush 9, 2) := by decide +kernel
theorem dX10_worthDrawn_45 : decode cX10_worthDrawn 45 = .ok (.iushr, 1) := by decide +kernel
theorem dX10_worthDrawn_46 : decode cX10_worthDrawn 46 = .ok (.bipush 21, 2) := by decide +kernel
theorem dX10_worthDrawn_48 : decode cX10_worthDrawn 48 = .ok (.irem, 1) := by decide +kernel
theorem dX10_worthDrawn_49 : decode cX10_worthDrawn 49 = .ok (.bipush 10, 2) := by decide +kernel
theorem dX10_worthDrawn_51 : decode cX10_worthDrawn 51 = .ok (.isub, 1) := by decide +kernel
theorem dX10_worthDrawn_52 : decode cX10_worthDrawn 52 = .ok (.iastore, 1) := by decide +kernel
theorem dX10_worthDrawn_53 : decode cX10_worthDrawn 53 = .ok (.iinc 4 1, 3) := by decide +kernel
theorem dX10_worthDrawn_56 : decode cX10_worthDrawn 56 = .ok (.goto (-51), 3) := by decide +kernel
theorem dX10_worthDrawn_59 : decode cX10_worthDrawn 59 = .ok (.aload_n 0, 1) := by decide +kernel
theorem dX10_worthDrawn_60 : decode cX10_worthDrawn 60 = .ok (.iload_n 1, 1) := by decide +kernel
theorem dX10_worthDrawn_61 : decode cX10_worthDrawn 61 = .ok (.invokevirtual 254, 3) := by decide +kernel
theorem dX10_worthDrawn_64 : decode cX10_worthDrawn 64 = .ok (.lstore 4, 2) := by decide +kernel
theorem dX10_worthDrawn_66 : decode cX10_worthDrawn 66 = .ok (.iconst 0, 1) := by decide +kernel
theorem dX10_worthDrawn_67 : decode cX10_worthDrawn 67 = .ok (.istore 6, 2) := by decide +kernel
theorem dX10_worthDrawn_69 : decode cX10_worthDrawn 69 = .ok (.iload 6, 2) := by decide +kernel
theorem dX10_worthDrawn_71 : decode cX10_worthDrawn 71 = .ok (.bipush 8, 2) := by decide +kernel
theorem dX10_worthDrawn_73 : decode cX10_worthDrawn 73 = .ok (.if_icmp .ge 23, 3) := by decide +kernel
theorem dX10_worthDrawn_76 : decode cX10_worthDrawn 76 = .ok (.aload_n 0, 1) := by decide +kernel
theorem dX10_worthDrawn_77 : decode cX10_worthDrawn 77 = .ok (.getfield 26, 3) := by decide +kernel
theorem dX10_worthDrawn_80 : decode cX10_worthDrawn 80 = .ok (.iload 6, 2) := by decide +kernel
theorem dX10_worthDrawn_82 : decode cX10_worthDrawn 82 = .ok (.aload_n 0, 1) := by decide +kernel
theorem dX10_worthDrawn_83 : decode cX10_worthDrawn 83 = .ok (.getfield 54, 3) := by decide +kernel
theorem dX10_worthDrawn_86 : decode cX10_worthDrawn 86 = .ok (.iload 6, 2) := by decide +kernel
theorem dX10_worthDrawn_88 : decode cX10_worthDrawn 88 = .ok (.iaload, 1) := by decide +kernel
theorem dX10_worthDrawn_89 : decode cX10_worthDrawn 89 = .ok (.iastore, 1) := by decide +kernel
theorem dX10_worthDrawn_90 : decode cX10_worthDrawn 90 = .ok (.iinc 6 1, 3) := by decide +kernel
theorem dX10_worthDrawn_93 : decode cX10_worthDrawn 93 = .ok (.goto (-24), 3) := by decide +kernel
theorem dX10_worthDrawn_96 : decode cX10_worthDrawn 96 = .ok (.lload 4, 2) := by decide +kernel
theorem dX10_worthDrawn_98 : decode cX10_worthDrawn 98 = .ok (.lreturn, 1) := by decide +kernel
theorem dX10_drawn_0 : decode cX10_drawn 0 = .ok (.aload_n 0, 1) := by decide +kernel
theorem dX10_drawn_1 : decode cX10_drawn 1 = .ok (.iload_n 1, 1) := by decide +kernel
theorem dX10_drawn_2 : decode cX10_drawn 2 = .ok (.invokevirtual 247, 3) := by decide +kernel
theorem dX10_drawn_5 : decode cX10_drawn 5 = .ok (.istore_n 3, 1) := by decide +kernel
theorem dX10_drawn_6 : decode cX10_drawn 6 = .ok (.iload_n 3, 1) := by decide +kernel
theorem dX10_drawn_7 : decode cX10_drawn 7 = .ok (.ifCond .eq 10, 3) := by decide +kernel
theorem dX10_drawn_10 : decode cX10_drawn 10 = .ok (.iload_n 3, 1) := by decide +kernel
theorem dX10_drawn_11 : decode cX10_drawn 11 = .ok (.invokestatic 250, 3) := by decide +kernel
theorem dX10_drawn_14 : decode cX10_drawn 14 = .ok (.goto 9, 3) := by decide +kernel
theorem dX10_drawn_17 : decode cX10_drawn 17 = .ok (.aload_n 0, 1) := by decide +kernel
theorem dX10_drawn_18 : decode cX10_drawn 18 = .ok (.iload_n 1, 1) := by decide +kernel
theorem dX10_drawn_19 : decode cX10_drawn 19 = .ok (.iload_n 2, 1) := by decide +kernel
theorem dX10_drawn_20 : decode cX10_drawn 20 = .ok (.invokevirtual 338, 3) := by decide +kernel
theorem dX10_drawn_23 : decode cX10_drawn 23 = .ok (.lreturn, 1) := by decide +kernel
theorem dX10_common_0 : decode cX10_common 0 = .ok (.iload_n 1, 1) := by decide +kernel
theorem dX10_common_1 : decode cX10_common 1 = .ok (.ifCond .ne 7, 3) := by decide +kernel
theorem dX10_common_4 : decode cX10_common 4 = .ok (.iload_n 0, 1) := by decide +kernel
theorem dX10_common_5 : decode cX10_common 5 = .ok (.goto 10, 3) := by decide +kernel
theorem dX10_common_8 : decode cX10_common 8 = .ok (.iload_n 1, 1) := by decide +kernel
theorem dX10_common_9 : decode cX10_common 9 = .ok (.iload_n 0, 1) := by decide +kernel
theorem dX10_common_10 : decode cX10_common 10 = .ok (.iload_n 1, 1) := by decide +kernel
theorem dX10_common_11 : decode cX10_common 11 = .ok (.irem, 1) := by decide +kernel
theorem dX10_common_12 : decode cX10_common 12 = .ok (.invokestatic 341, 3) := by decide +kernel
theorem dX10_common_15 : decode cX10_common 15 = .ok (.ireturn, 1) := by decide +kernel
theorem dX10_chance_0 : decode cX10_chance 0 = .ok (.iload_n 1, 1) := by decide +kernel
theorem dX10_chance_1 : decode cX10_chance 1 = .ok (.invokestatic 181, 3) := by decide +kernel
theorem dX10_chance_4 : decode cX10_chance 4 = .ok (.ifCond .eq 23, 3) := by decide +kernel
theorem dX10_chance_7 : decode cX10_chance 7 = .ok (.iload_n 3, 1) := by decide +kernel
theorem dX10_chance_8 : decode cX10_chance 8 = .ok (.iconst 1, 1) := by decide +kernel
theorem dX10_chance_9 : decode cX10_chance 9 = .ok (.bipush 20, 2) := by decide +kernel
theorem dX10_chance_11 : decode cX10_chance 11 = .ok (.invokestatic 84, 3) := by decide +kernel
theorem dX10_chance_14 : decode cX10_chance 14 = .ok (.ifCond .eq 13, 3) := by decide +kernel
theorem dX10_chance_17 : decode cX10_chance 17 = .ok (.iload 5, 2) := by decide +kernel
theorem dX10_chance_19 : decode cX10_chance 19 = .ok (.iconst 0, 1) := by decide +kernel
theorem dX10_chance_20 : decode cX10_chance 20 = .ok (.iconst 1, 1) := by decide +kernel
theorem dX10_chance_21 : decode cX10_chance 21 = .ok (.invokestatic 84, 3) := by decide +kernel
theorem dX10_chance_24 : decode cX10_chance 24 = .ok (.ifCond .ne 6, 3) := by decide +kernel
theorem dX10_chance_27 : decode cX10_chance 27 = .ok (.bipush (-2), 2) := by decide +kernel
theorem dX10_chance_29 : decode cX10_chance 29 = .ok (.ireturn, 1) := by decide +kernel
theorem dX10_chance_30 : decode cX10_chance 30 = .ok (.aload_n 0, 1) := by decide +kernel
theorem dX10_chance_31 : decode cX10_chance 31 = .ok (.getfield 9, 3) := by decide +kernel
theorem dX10_chance_34 : decode cX10_chance 34 = .ok (.iload_n 1, 1) := by decide +kernel
theorem dX10_chance_35 : decode cX10_chance 35 = .ok (.iaload, 1) := by decide +kernel
theorem dX10_chance_36 : decode cX10_chance 36 = .ok (.ifCond .ne 6, 3) := by decide +kernel
theorem dX10_chance_39 : decode cX10_chance 39 = .ok (.bipush (-3), 2) := by decide +kernel
theorem dX10_chance_41 : decode cX10_chance 41 = .ok (.ireturn, 1) := by decide +kernel
theorem dX10_chance_42 : decode cX10_chance 42 = .ok (.iconst 0, 1) := by decide +kernel
theorem dX10_chance_43 : decode cX10_chance 43 = .ok (.istore 6, 2) := by decide +kernel
theorem dX10_chance_45 : decode cX10_chance 45 = .ok (.iconst 0, 1) := by decide +kernel
theorem dX10_chance_46 : decode cX10_chance 46 = .ok (.istore 7, 2) := by decide +kernel
theorem dX10_chance_48 : decode cX10_chance 48 = .ok (.iload 7, 2) := by decide +kernel
theorem dX10_chance_50 : decode cX10_chance 50 = .ok (.iload_n 3, 1) := by decide +kernel
theorem dX10_chance_51 : decode cX10_chance 51 = .ok (.if_icmp .ge 28, 3) := by decide +kernel
theorem dX10_chance_54 : decode cX10_chance 54 = .ok (.aload_n 0, 1) := by decide +kernel
theorem dX10_chance_55 : decode cX10_chance 55 = .ok (.iload_n 1, 1) := by decide +kernel
theorem dX10_chance_56 : decode cX10_chance 56 = .ok (.iload_n 2, 1) := by decide +kernel
theorem dX10_chance_57 : decode cX10_chance 57 = .ok (.iload 7, 2) := by decide +kernel
theorem dX10_chance_59 : decode cX10_chance 59 = .ok (.iadd, 1) := by decide +kernel
theorem dX10_chance_60 : decode cX10_chance 60 = .ok (.invokevirtual 338, 3) := by decide +kernel
theorem dX10_chance_63 : decode cX10_chance 63 = .ok (.iload 4, 2) := by decide +kernel
theorem dX10_chance_65 : decode cX10_chance 65 = .ok (.i2l, 1) := by decide +kernel
theorem dX10_chance_66 : decode cX10_chance 66 = .ok (.lcmp, 1) := by decide +kernel
theorem dX10_chance_67 : decode cX10_chance 67 = .ok (.ifCond .gt 6, 3) := by decide +kernel
theorem dX10_chance_70 : decode cX10_chance 70 = .ok (.iinc 6 1, 3) := by decide +kernel
theorem dX10_chance_73 : decode cX10_chance 73 = .ok (.iinc 7 1, 3) := by decide +kernel
theorem dX10_chance_76 : decode cX10_chance 76 = .ok (.goto (-28), 3) := by decide +kernel
theorem dX10_chance_79 : decode cX10_chance 79 = .ok (.iload 5, 2) := by decide +kernel
theorem dX10_chance_81 : decode cX10_chance 81 = .ok (.ifCond .ne 8, 3) := by decide +kernel
theorem dX10_chance_84 : decode cX10_chance 84 = .ok (.iload 6, 2) := by decide +kernel
theorem dX10_chance_86 : decode cX10_chance 86 = .ok (.goto 4, 3) := by decide +kernel
theorem dX10_chance_89 : decode cX10_chance 89 = .ok (.iload_n 3, 1) := by decide +kernel
theorem dX10_chance_90 : decode cX10_chance 90 = .ok (.iload 6, 2) := by decide +kernel
theorem dX10_chance_92 : decode cX10_chance 92 = .ok (.iload_n 3, 1) := by decide +kernel
theorem dX10_chance_93 : decode cX10_chance 93 = .ok (.invokestatic 341, 3) := by decide +kernel
theorem dX10_chance_96 : decode cX10_chance 96 = .ok (.idiv, 1) := by decide +kernel
theorem dX10_chance_97 : decode cX10_chance 97 = .ok (.ireturn, 1) := by decide +kernel
theorem dX10_otherwise_0 : decode cX10_otherwise 0 = .ok (.aload_n 0, 1) := by decide +kernel
theorem dX10_otherwise_1 : decode cX10_otherwise 1 = .ok (.getfield 26, 3) := by decide +kernel
theorem dX10_otherwise_4 : decode cX10_otherwise 4 = .ok (.iload_n 3, 1) := by decide +kernel
theorem dX10_otherwise_5 : decode cX10_otherwise 5 = .ok (.iaload, 1) := by decide +kernel
theorem dX10_otherwise_6 : decode cX10_otherwise 6 = .ok (.istore 4, 2) := by decide +kernel
theorem dX10_otherwise_8 : decode cX10_otherwise 8 = .ok (.iconst (-1), 1) := by decide +kernel
theorem dX10_otherwise_9 : decode cX10_otherwise 9 = .ok (.istore 5, 2) := by decide +kernel
theorem dX10_otherwise_11 : decode cX10_otherwise 11 = .ok (.iconst 0, 1) := by decide +kernel
theorem dX10_otherwise_12 : decode cX10_otherwise 12 = .ok (.istore 6, 2) := by decide +kernel
theorem dX10_otherwise_14 : decode cX10_otherwise 14 = .ok (.iload 6, 2) := by decide +kernel
theorem dX10_otherwise_16 : decode cX10_otherwise 16 = .ok (.aload_n 0, 1) := by decide +kernel
theorem dX10_otherwise_17 : decode cX10_otherwise 17 = .ok (.getfield 75, 3) := by decide +kernel
theorem dX10_otherwise_20 : decode cX10_otherwise 20 = .ok (.iload_n 1, 1) := by decide +kernel
theorem dX10_otherwise_21 : decode cX10_otherwise 21 = .ok (.iaload, 1) := by decide +kernel
theorem dX10_otherwise_22 : decode cX10_otherwise 22 = .ok (.if_icmp .ge 45, 3) := by decide +kernel
theorem dX10_otherwise_25 : decode cX10_otherwise 25 = .ok (.iload 5, 2) := by decide +kernel
theorem dX10_otherwise_27 : decode cX10_otherwise 27 = .ok (.iconst (-1), 1) := by decide +kernel
theorem dX10_otherwise_28 : decode cX10_otherwise 28 = .ok (.if_icmp .ne 39, 3) := by decide +kernel
theorem dX10_otherwise_31 : decode cX10_otherwise 31 = .ok (.aload_n 0, 1) := by decide +kernel
theorem dX10_otherwise_32 : decode cX10_otherwise 32 = .ok (.getfield 26, 3) := by decide +kernel
theorem dX10_otherwise_35 : decode cX10_otherwise 35 = .ok (.iload_n 3, 1) := by decide +kernel
theorem dX10_otherwise_36 : decode cX10_otherwise 36 = .ok (.iload 6, 2) := by decide +kernel
theorem dX10_otherwise_38 : decode cX10_otherwise 38 = .ok (.iastore, 1) := by decide +kernel
theorem dX10_otherwise_39 : decode cX10_otherwise 39 = .ok (.aload_n 0, 1) := by decide +kernel
theorem dX10_otherwise_40 : decode cX10_otherwise 40 = .ok (.iload_n 2, 1) := by decide +kernel
theorem dX10_otherwise_41 : decode cX10_otherwise 41 = .ok (.invokevirtual 254, 3) := by decide +kernel
theorem dX10_otherwise_44 : decode cX10_otherwise 44 = .ok (.l2i, 1) := by decide +kernel
theorem dX10_otherwise_45 : decode cX10_otherwise 45 = .ok (.aload_n 0, 1) := by decide +kernel
theorem dX10_otherwise_46 : decode cX10_otherwise 46 = .ok (.getfield 78, 3) := by decide +kernel
theorem dX10_otherwise_49 : decode cX10_otherwise 49 = .ok (.iload_n 1, 1) := by decide +kernel
theorem dX10_otherwise_50 : decode cX10_otherwise 50 = .ok (.aaload, 1) := by decide +kernel
theorem dX10_otherwise_51 : decode cX10_otherwise 51 = .ok (.iload 6, 2) := by decide +kernel
theorem dX10_otherwise_53 : decode cX10_otherwise 53 = .ok (.iaload, 1) := by decide +kernel
theorem dX10_otherwise_54 : decode cX10_otherwise 54 = .ok (.if_icmp .eq 7, 3) := by decide +kernel
theorem dX10_otherwise_57 : decode cX10_otherwise 57 = .ok (.iload 6, 2) := by decide +kernel
theorem dX10_otherwise_59 : decode cX10_otherwise 59 = .ok (.istore 5, 2) := by decide +kernel
theorem dX10_otherwise_61 : decode cX10_otherwise 61 = .ok (.iinc 6 1, 3) := by decide +kernel
theorem dX10_otherwise_64 : decode cX10_otherwise 64 = .ok (.goto (-50), 3) := by decide +kernel
theorem dX10_otherwise_67 : decode cX10_otherwise 67 = .ok (.aload_n 0, 1) := by decide +kernel
theorem dX10_otherwise_68 : decode cX10_otherwise 68 = .ok (.getfield 26, 3) := by decide +kernel
theorem dX10_otherwise_71 : decode cX10_otherwise 71 = .ok (.iload_n 3, 1) := by decide +kernel
theorem dX10_otherwise_72 : decode cX10_otherwise 72 = .ok (.iload 4, 2) := by decide +kernel
theorem dX10_otherwise_74 : decode cX10_otherwise 74 = .ok (.iastore, 1) := by decide +kernel
theorem dX10_otherwise_75 : decode cX10_otherwise 75 = .ok (.iload 5, 2) := by decide +kernel
theorem dX10_otherwise_77 : decode cX10_otherwise 77 = .ok (.ireturn, 1) := by decide +kernel
theorem dX10_numberAt_0 : decode cX10_numberAt 0 = .ok (.iload_n 2, 1) := by decide +kernel
theorem dX10_numberAt_1 : decode cX10_numberAt 1 = .ok (.istore_n 3, 1) := by decide +kernel
theorem dX10_numberAt_2 : decode cX10_numberAt 2 = .ok (.iconst 0, 1) := by decide +kernel
theorem dX10_numberAt_3 : decode cX10_numberAt 3 = .ok (.istore 4, 2) := by decide +kernel
theorem dX10_numberAt_5 : decode cX10_numberAt 5 = .ok (.iload 4, 2) := by decide +kernel
theorem dX10_numberAt_7 : decode cX10_numberAt 7 = .ok (.aload_n 0, 1) := by decide +kernel
theorem dX10_numberAt_8 : decode cX10_numberAt 8 = .ok (.getfield 9, 3) := by decide +kernel
theorem dX10_numberAt_11 : decode cX10_numberAt 11 = .ok (.iload_n 1, 1) := by decide +kernel
theorem dX10_numberAt_12 : decode cX10_numberAt 12 = .ok (.iaload, 1) := by decide +kernel
theorem dX10_numberAt_13 : decode cX10_numberAt 13 = .ok (.if_icmp .ge 34, 3) := by decide +kernel
theorem dX10_numberAt_16 : decode cX10_numberAt 16 = .ok (.aload_n 0, 1) := by decide +kernel
theorem dX10_numberAt_17 : decode cX10_numberAt 17 = .ok (.getfield 15, 3) := by decide +kernel
theorem dX10_numberAt_20 : decode cX10_numberAt 20 = .ok (.iload_n 1, 1) := by decide +kernel
theorem dX10_numberAt_21 : decode cX10_numberAt 21 = .ok (.aaload, 1) := by decide +kernel
theorem dX10_numberAt_22 : decode cX10_numberAt 22 = .ok (.iload 4, 2) := by decide +kernel
theorem dX10_numberAt_24 : decode cX10_numberAt 24 = .ok (.iaload, 1) := by decide +kernel
theorem dX10_numberAt_25 : decode cX10_numberAt 25 = .ok (.ifCond .eq 6, 3) := by decide +kernel
theorem dX10_numberAt_28 : decode cX10_numberAt 28 = .ok (.goto 13, 3) := by decide +kernel
theorem dX10_numberAt_31 : decode cX10_numberAt 31 = .ok (.iload_n 3, 1) := by decide +kernel
theorem dX10_numberAt_32 : decode cX10_numberAt 32 = .ok (.ifCond .ne 6, 3) := by decide +kernel
theorem dX10_numberAt_35 : decode cX10_numberAt 35 = .ok (.iload 4, 2) := by decide +kernel
theorem dX10_numberAt_37 : decode cX10_numberAt 37 = .ok (.ireturn, 1) := by decide +kernel
theorem dX10_numberAt_38 : decode cX10_numberAt 38 = .ok (.iinc 3 (-1), 3) := by decide +kernel
theorem dX10_numberAt_41 : decode cX10_numberAt 41 = .ok (.iinc 4 1, 3) := by decide +kernel
theorem dX10_numberAt_44 : decode cX10_numberAt 44 = .ok (.goto (-39), 3) := by decide +kernel
theorem dX10_numberAt_47 : decode cX10_numberAt 47 = .ok (.iconst (-1), 1) := by decide +kernel
theorem dX10_numberAt_48 : decode cX10_numberAt 48 = .ok (.ireturn, 1) := by decide +kernel
theorem dX10_numbersBy_0 : decode cX10_numbersBy 0 = .ok (.aload_n 0, 1) := by decide +kernel
theorem dX10_numbersBy_1 : decode cX10_numbersBy 1 = .ok (.getfield 20, 3) := by decide +kernel
theorem dX10_numbersBy_4 : decode cX10_numbersBy 4 = .ok (.iload_n 2, 1) := by decide +kernel
theorem dX10_numbersBy_5 : decode cX10_numbersBy 5 = .ok (.aaload, 1) := by decide +kernel
theorem dX10_numbersBy_6 : decode cX10_numbersBy 6 = .ok (.iload 4, 2) := by decide +kernel
theorem dX10_numbersBy_8 : decode cX10_numbersBy 8 = .ok (.laload, 1) := by decide +kernel
theorem dX10_numbersBy_9 : decode cX10_numbersBy 9 = .ok (.lstore 6, 2) := by decide +kernel
theorem dX10_numbersBy_11 : decode cX10_numbersBy 11 = .ok (.iconst 0, 1) := by decide +kernel
theorem dX10_numbersBy_12 : decode cX10_numbersBy 12 = .ok (.istore 8, 2) := by decide +kernel
theorem dX10_numbersBy_14 : decode cX10_numbersBy 14 = .ok (.iconst (-1), 1) := by decide +kernel
theorem dX10_numbersBy_15 : decode cX10_numbersBy 15 = .ok (.istore 9, 2) := by decide +kernel
theorem dX10_numbersBy_17 : decode cX10_numbersBy 17 = .ok (.iconst 0, 1) := by decide +kernel
theorem dX10_numbersBy_18 : decode cX10_numbersBy 18 = .ok (.istore 10, 2) := by decide +kernel
theorem dX10_numbersBy_20 : decode cX10_numbersBy 20 = .ok (.iload 10, 2) := by decide +kernel
theorem dX10_numbersBy_22 : decode cX10_numbersBy 22 = .ok (.bipush 100, 2) := by decide +kernel
theorem dX10_numbersBy_24 : decode cX10_numbersBy 24 = .ok (.if_icmp .ge 52, 3) := by decide +kernel
theorem dX10_numbersBy_27 : decode cX10_numbersBy 27 = .ok (.aload_n 0, 1) := by decide +kernel
theorem dX10_numbersBy_28 : decode cX10_numbersBy 28 = .ok (.getfield 20, 3) := by decide +kernel
theorem dX10_numbersBy_31 : decode cX10_numbersBy 31 = .ok (.iload_n 2, 1) := by decide +kernel
theorem dX10_numbersBy_32 : decode cX10_numbersBy 32 = .ok (.aaload, 1) := by decide +kernel
theorem dX10_numbersBy_33 : decode cX10_numbersBy 33 = .ok (.iload 4, 2) := by decide +kernel
theorem dX10_numbersBy_35 : decode cX10_numbersBy 35 = .ok (.iload 10, 2) := by decide +kernel
theorem dX10_numbersBy_37 : decode cX10_numbersBy 37 = .ok (.i2l, 1) := by decide +kernel
theorem dX10_numbersBy_38 : decode cX10_numbersBy 38 = .ok (.lastore, 1) := by decide +kernel
theorem dX10_numbersBy_39 : decode cX10_numbersBy 39 = .ok (.aload_n 0, 1) := by decide +kernel
theorem dX10_numbersBy_40 : decode cX10_numbersBy 40 = .ok (.iload_n 1, 1) := by decide +kernel
theorem dX10_numbersBy_41 : decode cX10_numbersBy 41 = .ok (.iload_n 2, 1) := by decide +kernel
theorem dX10_numbersBy_42 : decode cX10_numbersBy 42 = .ok (.iload_n 3, 1) := by decide +kernel
theorem dX10_numbersBy_43 : decode cX10_numbersBy 43 = .ok (.invokevirtual 344, 3) := by decide +kernel
theorem dX10_numbersBy_46 : decode cX10_numbersBy 46 = .ok (.iconst (-1), 1) := by decide +kernel
theorem dX10_numbersBy_47 : decode cX10_numbersBy 47 = .ok (.if_icmp .eq 6, 3) := by decide +kernel
theorem dX10_numbersBy_50 : decode cX10_numbersBy 50 = .ok (.goto 20, 3) := by decide +kernel
theorem dX10_numbersBy_53 : decode cX10_numbersBy 53 = .ok (.iload 8, 2) := by decide +kernel
theorem dX10_numbersBy_55 : decode cX10_numbersBy 55 = .ok (.ifCond .ne 8, 3) := by decide +kernel
theorem dX10_numbersBy_58 : decode cX10_numbersBy 58 = .ok (.iload 10, 2) := by decide +kernel
theorem dX10_numbersBy_60 : decode cX10_numbersBy 60 = .ok (.goto 5, 3) := by decide +kernel
theorem dX10_numbersBy_63 : decode cX10_numbersBy 63 = .ok (.iload 9, 2) := by decide +kernel
theorem dX10_numbersBy_65 : decode cX10_numbersBy 65 = .ok (.istore 9, 2) := by decide +kernel
theorem dX10_numbersBy_67 : decode cX10_numbersBy 67 = .ok (.iinc 8 1, 3) := by decide +kernel
theorem dX10_numbersBy_70 : decode cX10_numbersBy 70 = .ok (.iinc 10 1, 3) := by decide +kernel
theorem dX10_numbersBy_73 : decode cX10_numbersBy 73 = .ok (.goto (-53), 3) := by decide +kernel
theorem dX10_numbersBy_76 : decode cX10_numbersBy 76 = .ok (.aload_n 0, 1) := by decide +kernel
theorem dX10_numbersBy_77 : decode cX10_numbersBy 77 = .ok (.getfield 20, 3) := by decide +kernel
theorem dX10_numbersBy_80 : decode cX10_numbersBy 80 = .ok (.iload_n 2, 1) := by decide +kernel
theorem dX10_numbersBy_81 : decode cX10_numbersBy 81 = .ok (.aaload, 1) := by decide +kernel
theorem dX10_numbersBy_82 : decode cX10_numbersBy 82 = .ok (.iload 4, 2) := by decide +kernel
theorem dX10_numbersBy_84 : decode cX10_numbersBy 84 = .ok (.lload 6, 2) := by decide +kernel
theorem dX10_numbersBy_86 : decode cX10_numbersBy 86 = .ok (.lastore, 1) := by decide +kernel
theorem dX10_numbersBy_87 : decode cX10_numbersBy 87 = .ok (.iload 5, 2) := by decide +kernel
theorem dX10_numbersBy_89 : decode cX10_numbersBy 89 = .ok (.ifCond .eq 8, 3) := by decide +kernel
theorem dX10_numbersBy_92 : decode cX10_numbersBy 92 = .ok (.iload 9, 2) := by decide +kernel
theorem dX10_numbersBy_94 : decode cX10_numbersBy 94 = .ok (.goto 5, 3) := by decide +kernel
theorem dX10_numbersBy_97 : decode cX10_numbersBy 97 = .ok (.iload 8, 2) := by decide +kernel
theorem dX10_numbersBy_99 : decode cX10_numbersBy 99 = .ok (.ireturn, 1) := by decide +kernel
theorem dX10_tells_0 : decode cX10_tells 0 = .ok (.iload 4, 2) := by decide +kernel
theorem dX10_tells_2 : decode cX10_tells 2 = .ok (.bipush 10, 2) := by decide +kernel
theorem dX10_tells_4 : decode cX10_tells 4 = .ok (.bipush 50, 2) := by decide +kernel
theorem dX10_tells_6 : decode cX10_tells 6 = .ok (.invokestatic 84, 3) := by decide +kernel
theorem dX10_tells_9 : decode cX10_tells 9 = .ok (.ifCond .ne 16, 3) := by decide +kernel
theorem dX10_tells_12 : decode cX10_tells 12 = .ok (.iload 4, 2) := by decide +kernel
theorem dX10_tells_14 : decode cX10_tells 14 = .ok (.bipush 100, 2) := by decide +kernel
theorem dX10_tells_16 : decode cX10_tells 16 = .ok (.sipush 140, 3) := by decide +kernel
theorem dX10_tells_19 : decode cX10_tells 19 = .ok (.invokestatic 84, 3) := by decide +kernel
theorem dX10_tells_22 : decode cX10_tells 22 = .ok (.ifCond .eq 7, 3) := by decide +kernel
theorem dX10_tells_25 : decode cX10_tells 25 = .ok (.iconst 1, 1) := by decide +kernel
theorem dX10_tells_26 : decode cX10_tells 26 = .ok (.goto 4, 3) := by decide +kernel
theorem dX10_tells_29 : decode cX10_tells 29 = .ok (.iconst 0, 1) := by decide +kernel
theorem dX10_tells_30 : decode cX10_tells 30 = .ok (.istore 5, 2) := by decide +kernel
theorem dX10_tells_32 : decode cX10_tells 32 = .ok (.iload_n 1, 1) := by decide +kernel
theorem dX10_tells_33 : decode cX10_tells 33 = .ok (.invokestatic 347, 3) := by decide +kernel
theorem dX10_tells_36 : decode cX10_tells 36 = .ok (.ifCond .eq 32, 3) := by decide +kernel
theorem dX10_tells_39 : decode cX10_tells 39 = .ok (.iload_n 2, 1) := by decide +kernel
theorem dX10_tells_40 : decode cX10_tells 40 = .ok (.invokestatic 181, 3) := by decide +kernel
theorem dX10_tells_43 : decode cX10_tells 43 = .ok (.ifCond .eq 25, 3) := by decide +kernel
theorem dX10_tells_46 : decode cX10_tells 46 = .ok (.iload_n 3, 1) := by decide +kernel
theorem dX10_tells_47 : decode cX10_tells 47 = .ok (.invokestatic 189, 3) := by decide +kernel
theorem dX10_tells_50 : decode cX10_tells 50 = .ok (.ifCond .eq 18, 3) := by decide +kernel
theorem dX10_tells_53 : decode cX10_tells 53 = .ok (.iload 4, 2) := by decide +kernel
theorem dX10_tells_55 : decode cX10_tells 55 = .ok (.iconst 0, 1) := by decide +kernel
theorem dX10_tells_56 : decode cX10_tells 56 = .ok (.iconst 2, 1) := by decide +kernel
theorem dX10_tells_57 : decode cX10_tells 57 = .ok (.invokestatic 84, 3) := by decide +kernel
theorem dX10_tells_60 : decode cX10_tells 60 = .ok (.ifCond .ne 11, 3) := by decide +kernel
theorem dX10_tells_63 : decode cX10_tells 63 = .ok (.iload 5, 2) := by decide +kernel
theorem dX10_tells_65 : decode cX10_tells 65 = .ok (.ifCond .ne 6, 3) := by decide +kernel
theorem dX10_tells_68 : decode cX10_tells 68 = .ok (.bipush (-2), 2) := by decide +kernel
theorem dX10_tells_70 : decode cX10_tells 70 = .ok (.ireturn, 1) := by decide +kernel
theorem dX10_tells_71 : decode cX10_tells 71 = .ok (.iload 5, 2) := by decide +kernel
theorem dX10_tells_73 : decode cX10_tells 73 = .ok (.ifCond .eq 31, 3) := by decide +kernel
theorem dX10_tells_76 : decode cX10_tells 76 = .ok (.aload_n 0, 1) := by decide +kernel
theorem dX10_tells_77 : decode cX10_tells 77 = .ok (.iload_n 2, 1) := by decide +kernel
theorem dX10_tells_78 : decode cX10_tells 78 = .ok (.iload 4, 2) := by decide +kernel
theorem dX10_tells_80 : decode cX10_tells 80 = .ok (.bipush 100, 2) := by decide +kernel
theorem dX10_tells_82 : decode cX10_tells 82 = .ok (.if_icmp .ge 11, 3) := by decide +kernel
theorem dX10_tells_85 : decode cX10_tells 85 = .ok (.iload 4, 2) := by decide +kernel
theorem dX10_tells_87 : decode cX10_tells 87 = .ok (.bipush 10, 2) := by decide +kernel
theorem dX10_tells_89 : decode cX10_tells 89 = .ok (.isub, 1) := by decide +kernel
theorem dX10_tells_90 : decode cX10_tells 90 = .ok (.goto 8, 3) := by decide +kernel
theorem dX10_tells_93 : decode cX10_tells 93 = .ok (.iload 4, 2) := by decide +kernel
theorem dX10_tells_95 : decode cX10_tells 95 = .ok (.bipush 100, 2) := by decide +kernel
theorem dX10_tells_97 : decode cX10_tells 97 = .ok (.isub, 1) := by decide +kernel
theorem dX10_tells_98 : decode cX10_tells 98 = .ok (.invokevirtual 350, 3) := by decide +kernel
theorem dX10_tells_101 : decode cX10_tells 101 = .ok (.goto 4, 3) := by decide +kernel
theorem dX10_tells_104 : decode cX10_tells 104 = .ok (.iconst 0, 1) := by decide +kernel
theorem dX10_tells_105 : decode cX10_tells 105 = .ok (.istore 6, 2) := by decide +kernel
theorem dX10_tells_107 : decode cX10_tells 107 = .ok (.iload 6, 2) := by decide +kernel
theorem dX10_tells_109 : decode cX10_tells 109 = .ok (.iconst (-1), 1) := by decide +kernel
theorem dX10_tells_110 : decode cX10_tells 110 = .ok (.if_icmp .ne 6, 3) := by decide +kernel
theorem dX10_tells_113 : decode cX10_tells 113 = .ok (.bipush (-2), 2) := by decide +kernel
theorem dX10_tells_115 : decode cX10_tells 115 = .ok (.ireturn, 1) := by decide +kernel
theorem dX10_tells_116 : decode cX10_tells 116 = .ok (.aload_n 0, 1) := by decide +kernel
theorem dX10_tells_117 : decode cX10_tells 117 = .ok (.getfield 9, 3) := by decide +kernel
theorem dX10_tells_120 : decode cX10_tells 120 = .ok (.iload_n 2, 1) := by decide +kernel
theorem dX10_tells_121 : decode cX10_tells 121 = .ok (.iaload, 1) := by decide +kernel
theorem dX10_tells_122 : decode cX10_tells 122 = .ok (.ifCond .ne 6, 3) := by decide +kernel
theorem dX10_tells_125 : decode cX10_tells 125 = .ok (.bipush (-3), 2) := by decide +kernel
theorem dX10_tells_127 : decode cX10_tells 127 = .ok (.ireturn, 1) := by decide +kernel
theorem dX10_tells_128 : decode cX10_tells 128 = .ok (.aload_n 0, 1) := by decide +kernel
theorem dX10_tells_129 : decode cX10_tells 129 = .ok (.getfield 72, 3) := by decide +kernel
theorem dX10_tells_132 : decode cX10_tells 132 = .ok (.iload_n 1, 1) := by decide +kernel
theorem dX10_tells_133 : decode cX10_tells 133 = .ok (.iaload, 1) := by decide +kernel
theorem dX10_tells_134 : decode cX10_tells 134 = .ok (.ifCond .ge 6, 3) := by decide +kernel
theorem dX10_tells_137 : decode cX10_tells 137 = .ok (.bipush (-11), 2) := by decide +kernel
theorem dX10_tells_139 : decode cX10_tells 139 = .ok (.ireturn, 1) := by decide +kernel
theorem dX10_tells_140 : decode cX10_tells 140 = .ok (.aload_n 0, 1) := by decide +kernel
theorem dX10_tells_141 : decode cX10_tells 141 = .ok (.getfield 75, 3) := by decide +kernel
theorem dX10_tells_144 : decode cX10_tells 144 = .ok (.iload_n 1, 1) := by decide +kernel
theorem dX10_tells_145 : decode cX10_tells 145 = .ok (.iaload, 1) := by decide +kernel
theorem dX10_tells_146 : decode cX10_tells 146 = .ok (.bipush 20, 2) := by decide +kernel
theorem dX10_tells_148 : decode cX10_tells 148 = .ok (.if_icmp .le 6, 3) := by decide +kernel
theorem dX10_tells_151 : decode cX10_tells 151 = .ok (.bipush (-2), 2) := by decide +kernel
theorem dX10_tells_153 : decode cX10_tells 153 = .ok (.ireturn, 1) := by decide +kernel
theorem dX10_tells_154 : decode cX10_tells 154 = .ok (.iload 5, 2) := by decide +kernel
theorem dX10_tells_156 : decode cX10_tells 156 = .ok (.ifCond .eq 25, 3) := by decide +kernel
theorem dX10_tells_159 : decode cX10_tells 159 = .ok (.aload_n 0, 1) := by decide +kernel
theorem dX10_tells_160 : decode cX10_tells 160 = .ok (.iload_n 1, 1) := by decide +kernel
theorem dX10_tells_161 : decode cX10_tells 161 = .ok (.iload_n 2, 1) := by decide +kernel
theorem dX10_tells_162 : decode cX10_tells 162 = .ok (.iload_n 3, 1) := by decide +kernel
theorem dX10_tells_163 : decode cX10_tells 163 = .ok (.iload 6, 2) := by decide +kernel
theorem dX10_tells_165 : decode cX10_tells 165 = .ok (.iload 4, 2) := by decide +kernel
theorem dX10_tells_167 : decode cX10_tells 167 = .ok (.bipush 100, 2) := by decide +kernel
theorem dX10_tells_169 : decode cX10_tells 169 = .ok (.if_icmp .lt 7, 3) := by decide +kernel
theorem dX10_tells_172 : decode cX10_tells 172 = .ok (.iconst 1, 1) := by decide +kernel
theorem dX10_tells_173 : decode cX10_tells 173 = .ok (.goto 4, 3) := by decide +kernel
theorem dX10_tells_176 : decode cX10_tells 176 = .ok (.iconst 0, 1) := by decide +kernel
theorem dX10_tells_177 : decode cX10_tells 177 = .ok (.invokevirtual 353, 3) := by decide +kernel
theorem dX10_tells_180 : decode cX10_tells 180 = .ok (.ireturn, 1) := by decide +kernel
theorem dX10_tells_181 : decode cX10_tells 181 = .ok (.iload 4, 2) := by decide +kernel
theorem dX10_tells_183 : decode cX10_tells 183 = .ok (.ifCond .ne 11, 3) := by decide +kernel
theorem dX10_tells_186 : decode cX10_tells 186 = .ok (.aload_n 0, 1) := by decide +kernel
theorem dX10_tells_187 : decode cX10_tells 187 = .ok (.iload_n 1, 1) := by decide +kernel
theorem dX10_tells_188 : decode cX10_tells 188 = .ok (.iload_n 2, 1) := by decide +kernel
theorem dX10_tells_189 : decode cX10_tells 189 = .ok (.iload_n 3, 1) := by decide +kernel
theorem dX10_tells_190 : decode cX10_tells 190 = .ok (.invokevirtual 344, 3) := by decide +kernel
theorem dX10_tells_193 : decode cX10_tells 193 = .ok (.ireturn, 1) := by decide +kernel
theorem dX10_tells_194 : decode cX10_tells 194 = .ok (.iconst 0, 1) := by decide +kernel
theorem dX10_tells_195 : decode cX10_tells 195 = .ok (.istore 7, 2) := by decide +kernel
theorem dX10_tells_197 : decode cX10_tells 197 = .ok (.iconst 0, 1) := by decide +kernel
theorem dX10_tells_198 : decode cX10_tells 198 = .ok (.istore 8, 2) := by decide +kernel
theorem dX10_tells_200 : decode cX10_tells 200 = .ok (.iload 4, 2) := by decide +kernel
theorem dX10_tells_202 : decode cX10_tells 202 = .ok (.iconst 1, 1) := by decide +kernel
theorem dX10_tells_203 : decode cX10_tells 203 = .ok (.if_icmp .ne 47, 3) := by decide +kernel
theorem dX10_tells_206 : decode cX10_tells 206 = .ok (.iload 8, 2) := by decide +kernel
theorem dX10_tells_208 : decode cX10_tells 208 = .ok (.bipush 12, 2) := by decide +kernel
theorem dX10_tells_210 : decode cX10_tells 210 = .ok (.if_icmp .ge 40, 3) := by decide +kernel
theorem dX10_tells_213 : decode cX10_tells 213 = .ok (.aload_n 0, 1) := by decide +kernel
theorem dX10_tells_214 : decode cX10_tells 214 = .ok (.getfield 9, 3) := by decide +kernel
theorem dX10_tells_217 : decode cX10_tells 217 = .ok (.iload 8, 2) := by decide +kernel
theorem dX10_tells_219 : decode cX10_tells 219 = .ok (.iaload, 1) := by decide +kernel
theorem dX10_tells_220 : decode cX10_tells 220 = .ok (.ifCond .le 24, 3) := by decide +kernel
theorem dX10_tells_223 : decode cX10_tells 223 = .ok (.aload_n 0, 1) := by decide +kernel
theorem dX10_tells_224 : decode cX10_tells 224 = .ok (.iload_n 1, 1) := by decide +kernel
theorem dX10_tells_225 : decode cX10_tells 225 = .ok (.iload 8, 2) := by decide +kernel
theorem dX10_tells_227 : decode cX10_tells 227 = .ok (.iload_n 3, 1) := by decide +kernel
theorem dX10_tells_228 : decode cX10_tells 228 = .ok (.invokevirtual 344, 3) := by decide +kernel
theorem dX10_tells_231 : decode cX10_tells 231 = .ok (.iconst (-1), 1) := by decide +kernel
theorem dX10_tells_232 : decode cX10_tells 232 = .ok (.if_icmp .ne 12, 3) := by decide +kernel
theorem dX10_tells_235 : decode cX10_tells 235 = .ok (.iload 7, 2) := by decide +kernel
theorem dX10_tells_237 : decode cX10_tells 237 = .ok (.iconst 1, 1) := by decide +kernel
theorem dX10_tells_238 : decode cX10_tells 238 = .ok (.iload 8, 2) := by decide +kernel
theorem dX10_tells_240 : decode cX10_tells 240 = .ok (.ishl, 1) := by decide +kernel
theorem dX10_tells_241 : decode cX10_tells 241 = .ok (.ior, 1) := by decide +kernel
theorem dX10_tells_242 : decode cX10_tells 242 = .ok (.istore 7, 2) := by decide +kernel
theorem dX10_tells_244 : decode cX10_tells 244 = .ok (.iinc 8 1, 3) := by decide +kernel
theorem dX10_tells_247 : decode cX10_tells 247 = .ok (.goto (-47), 3) := by decide +kernel
theorem dX10_tells_250 : decode cX10_tells 250 = .ok (.iconst 0, 1) := by decide +kernel
theorem dX10_tells_251 : decode cX10_tells 251 = .ok (.istore 8, 2) := by decide +kernel
theorem dX10_tells_253 : decode cX10_tells 253 = .ok (.iload 4, 2) := by decide +kernel
theorem dX10_tells_255 : decode cX10_tells 255 = .ok (.iconst 2, 1) := by decide +kernel
theorem dX10_tells_256 : decode cX10_tells 256 = .ok (.if_icmp .ne 37, 3) := by decide +kernel
theorem dX10_tells_259 : decode cX10_tells 259 = .ok (.iload 8, 2) := by decide +kernel
theorem dX10_tells_261 : decode cX10_tells 261 = .ok (.bipush 8, 2) := by decide +kernel
theorem dX10_tells_263 : decode cX10_tells 263 = .ok (.if_icmp .ge 30, 3) := by decide +kernel
theorem dX10_tells_266 : decode cX10_tells 266 = .ok (.aload_n 0, 1) := by decide +kernel
theorem dX10_tells_267 : decode cX10_tells 267 = .ok (.iload_n 1, 1) := by decide +kernel
theorem dX10_tells_268 : decode cX10_tells 268 = .ok (.iload_n 2, 1) := by decide +kernel
theorem dX10_tells_269 : decode cX10_tells 269 = .ok (.iload 8, 2) := by decide +kernel
theorem dX10_tells_271 : decode cX10_tells 271 = .ok (.invokevirtual 344, 3) := by decide +kernel
theorem dX10_tells_274 : decode cX10_tells 274 = .ok (.iconst (-1), 1) := by decide +kernel
theorem dX10_tells_275 : decode cX10_tells 275 = .ok (.if_icmp .ne 12, 3) := by decide +kernel
theorem dX10_tells_278 : decode cX10_tells 278 = .ok (.iload 7, 2) := by decide +kernel
theorem dX10_tells_280 : decode cX10_tells 280 = .ok (.iconst 1, 1) := by decide +kernel
theorem dX10_tells_281 : decode cX10_tells 281 = .ok (.iload 8, 2) := by decide +kernel
theorem dX10_tells_283 : decode cX10_tells 283 = .ok (.ishl, 1) := by decide +kernel
theorem dX10_tells_284 : decode cX10_tells 284 = .ok (.ior, 1) := by decide +kernel
theorem dX10_tells_285 : decode cX10_tells 285 = .ok (.istore 7, 2) := by decide +kernel
theorem dX10_tells_287 : decode cX10_tells 287 = .ok (.iinc 8 1, 3) := by decide +kernel
theorem dX10_tells_290 : decode cX10_tells 290 = .ok (.goto (-37), 3) := by decide +kernel
theorem dX10_tells_293 : decode cX10_tells 293 = .ok (.iload 7, 2) := by decide +kernel
theorem dX10_tells_295 : decode cX10_tells 295 = .ok (.ireturn, 1) := by decide +kernel
theorem dX10_film_0 : decode cX10_film 0 = .ok (.iload_n 1, 1) := by decide +kernel
theorem dX10_film_1 : decode cX10_film 1 = .ok (.invokestatic 347, 3) := by decide +kernel
theorem dX10_film_4 : decode cX10_film 4 = .ok (.ifCond .eq 28, 3) := by decide +kernel
theorem dX10_film_7 : decode cX10_film 7 = .ok (.iload_n 2, 1) := by decide +kernel
theorem dX10_film_8 : decode cX10_film 8 = .ok (.invokestatic 181, 3) := by decide +kernel
theorem dX10_film_11 : decode cX10_film 11 = .ok (.ifCond .eq 21, 3) := by decide +kernel
theorem dX10_film_14 : decode cX10_film 14 = .ok (.iload_n 3, 1) := by decide +kernel
theorem dX10_film_15 : decode cX10_film 15 = .ok (.invokestatic 189, 3) := by decide +kernel
theorem dX10_film_18 : decode cX10_film 18 = .ok (.ifCond .eq 14, 3) := by decide +kernel
theorem dX10_film_21 : decode cX10_film 21 = .ok (.iload 4, 2) := by decide +kernel
theorem dX10_film_23 : decode cX10_film 23 = .ok (.iconst 0, 1) := by decide +kernel
theorem dX10_film_24 : decode cX10_film 24 = .ok (.bipush 20, 2) := by decide +kernel
theorem dX10_film_26 : decode cX10_film 26 = .ok (.invokestatic 84, 3) := by decide +kernel
theorem dX10_film_29 : decode cX10_film 29 = .ok (.ifCond .ne 6, 3) := by decide +kernel
theorem dX10_film_32 : decode cX10_film 32 = .ok (.bipush (-2), 2) := by decide +kernel
theorem dX10_film_34 : decode cX10_film 34 = .ok (.ireturn, 1) := by decide +kernel
theorem dX10_film_35 : decode cX10_film 35 = .ok (.aload_n 0, 1) := by decide +kernel
theorem dX10_film_36 : decode cX10_film 36 = .ok (.getfield 9, 3) := by decide +kernel
theorem dX10_film_39 : decode cX10_film 39 = .ok (.iload_n 2, 1) := by decide +kernel
theorem dX10_film_40 : decode cX10_film 40 = .ok (.iaload, 1) := by decide +kernel
theorem dX10_film_41 : decode cX10_film 41 = .ok (.ifCond .ne 6, 3) := by decide +kernel
theorem dX10_film_44 : decode cX10_film 44 = .ok (.bipush (-3), 2) := by decide +kernel
theorem dX10_film_46 : decode cX10_film 46 = .ok (.ireturn, 1) := by decide +kernel
theorem dX10_film_47 : decode cX10_film 47 = .ok (.aload_n 0, 1) := by decide +kernel
theorem dX10_film_48 : decode cX10_film 48 = .ok (.getfield 72, 3) := by decide +kernel
theorem dX10_film_51 : decode cX10_film 51 = .ok (.iload_n 1, 1) := by decide +kernel
theorem dX10_film_52 : decode cX10_film 52 = .ok (.iconst 1, 1) := by decide +kernel
theorem dX10_film_53 : decode cX10_film 53 = .ok (.iastore, 1) := by decide +kernel
theorem dX10_film_54 : decode cX10_film 54 = .ok (.aload_n 0, 1) := by decide +kernel
theorem dX10_film_55 : decode cX10_film 55 = .ok (.getfield 75, 3) := by decide +kernel
theorem dX10_film_58 : decode cX10_film 58 = .ok (.iload_n 1, 1) := by decide +kernel
theorem dX10_film_59 : decode cX10_film 59 = .ok (.iload 4, 2) := by decide +kernel
theorem dX10_film_61 : decode cX10_film 61 = .ok (.iastore, 1) := by decide +kernel
theorem dX10_film_62 : decode cX10_film 62 = .ok (.aload_n 0, 1) := by decide +kernel
theorem dX10_film_63 : decode cX10_film 63 = .ok (.getfield 26, 3) := by decide +kernel
theorem dX10_film_66 : decode cX10_film 66 = .ok (.iload_n 3, 1) := by decide +kernel
theorem dX10_film_67 : decode cX10_film 67 = .ok (.iaload, 1) := by decide +kernel
theorem dX10_film_68 : decode cX10_film 68 = .ok (.istore 5, 2) := by decide +kernel
theorem dX10_film_70 : decode cX10_film 70 = .ok (.iconst 0, 1) := by decide +kernel
theorem dX10_film_71 : decode cX10_film 71 = .ok (.istore 6, 2) := by decide +kernel
theorem dX10_film_73 : decode cX10_film 73 = .ok (.iload 6, 2) := by decide +kernel
theorem dX10_film_75 : decode cX10_film 75 = .ok (.iload 4, 2) := by decide +kernel
theorem dX10_film_77 : decode cX10_film 77 = .ok (.if_icmp .ge 32, 3) := by decide +kernel
theorem dX10_film_80 : decode cX10_film 80 = .ok (.aload_n 0, 1) := by decide +kernel
theorem dX10_film_81 : decode cX10_film 81 = .ok (.getfield 26, 3) := by decide +kernel
theorem dX10_film_84 : decode cX10_film 84 = .ok (.iload_n 3, 1) := by decide +kernel
theorem dX10_film_85 : decode cX10_film 85 = .ok (.iload 6, 2) := by decide +kernel
theorem dX10_film_87 : decode cX10_film 87 = .ok (.iastore, 1) := by decide +kernel
theorem dX10_film_88 : decode cX10_film 88 = .ok (.aload_n 0, 1) := by decide +kernel
theorem dX10_film_89 : decode cX10_film 89 = .ok (.getfield 78, 3) := by decide +kernel
theorem dX10_film_92 : decode cX10_film 92 = .ok (.iload_n 1, 1) := by decide +kernel
theorem dX10_film_93 : decode cX10_film 93 = .ok (.aaload, 1) := by decide +kernel
theorem dX10_film_94 : decode cX10_film 94 = .ok (.iload 6, 2) := by decide +kernel
theorem dX10_film_96 : decode cX10_film 96 = .ok (.aload_n 0, 1) := by decide +kernel
theorem dX10_film_97 : decode cX10_film 97 = .ok (.iload_n 2, 1) := by decide +kernel
theorem dX10_film_98 : decode cX10_film 98 = .ok (.invokevirtual 254, 3) := by decide +kernel
theorem dX10_film_101 : decode cX10_film 101 = .ok (.l2i, 1) := by decide +kernel
theorem dX10_film_102 : decode cX10_film 102 = .ok (.iastore, 1) := by decide +kernel
theorem dX10_film_103 : decode cX10_film 103 = .ok (.iinc 6 1, 3) := by decide +kernel
theorem dX10_film_106 : decode cX10_film 106 = .ok (.goto (-33), 3) := by decide +kernel
theorem dX10_film_109 : decode cX10_film 109 = .ok (.aload_n 0, 1) := by decide +kernel
theorem dX10_film_110 : decode cX10_film 110 = .ok (.getfield 26, 3) := by decide +kernel
theorem dX10_film_113 : decode cX10_film 113 = .ok (.iload_n 3, 1) := by decide +kernel
theorem dX10_film_114 : decode cX10_film 114 = .ok (.iload 5, 2) := by decide +kernel
theorem dX10_film_116 : decode cX10_film 116 = .ok (.iastore, 1) := by decide +kernel
theorem dX10_film_117 : decode cX10_film 117 = .ok (.iload 4, 2) := by decide +kernel
theorem dX10_film_119 : decode cX10_film 119 = .ok (.ireturn, 1) := by decide +kernel
theorem dX10_notEmpty_0 : decode cX10_notEmpty 0 = .ok (.iconst 0, 1) := by decide +kernel
theorem dX10_notEmpty_1 : decode cX10_notEmpty 1 = .ok (.istore_n 1, 1) := by decide +kernel
theorem dX10_notEmpty_2 : decode cX10_notEmpty 2 = .ok (.iconst 0, 1) := by decide +kernel
theorem dX10_notEmpty_3 : decode cX10_notEmpty 3 = .ok (.istore_n 2, 1) := by decide +kernel
theorem dX10_notEmpty_4 : decode cX10_notEmpty 4 = .ok (.iload_n 2, 1) := by decide +kernel
theorem dX10_notEmpty_5 : decode cX10_notEmpty 5 = .ok (.bipush 12, 2) := by decide +kernel
theorem dX10_notEmpty_7 : decode cX10_notEmpty 7 = .ok (.if_icmp .ge 21, 3) := by decide +kernel
theorem dX10_notEmpty_10 : decode cX10_notEmpty 10 = .ok (.aload_n 0, 1) := by decide +kernel
theorem dX10_notEmpty_11 : decode cX10_notEmpty 11 = .ok (.getfield 9, 3) := by decide +kernel
theorem dX10_notEmpty_14 : decode cX10_notEmpty 14 = .ok (.iload_n 2, 1) := by decide +kernel
theorem dX10_notEmpty_15 : decode cX10_notEmpty 15 = .ok (.iaload, 1) := by decide +kernel
theorem dX10_notEmpty_16 : decode cX10_notEmpty 16 = .ok (.ifCond .le 6, 3) := by decide +kernel
theorem dX10_notEmpty_19 : decode cX10_notEmpty 19 = .ok (.iinc 1 1, 3) := by decide +kernel
theorem dX10_notEmpty_22 : decode cX10_notEmpty 22 = .ok (.iinc 2 1, 3) := by decide +kernel
theorem dX10_notEmpty_25 : decode cX10_notEmpty 25 = .ok (.goto (-21), 3) := by decide +kernel
theorem dX10_notEmpty_28 : decode cX10_notEmpty 28 = .ok (.iload_n 1, 1) := by decide +kernel
theorem dX10_notEmpty_29 : decode cX10_notEmpty 29 = .ok (.ireturn, 1) := by decide +kernel
theorem dX10_image_0 : decode cX10_image 0 = .ok (.aload_n 0, 1) := by decide +kernel
theorem dX10_image_1 : decode cX10_image 1 = .ok (.getfield 9, 3) := by decide +kernel
theorem dX10_image_4 : decode cX10_image 4 = .ok (.iconst 0, 1) := by decide +kernel
theorem dX10_image_5 : decode cX10_image 5 = .ok (.aload_n 0, 1) := by decide +kernel
theorem dX10_image_6 : decode cX10_image 6 = .ok (.getfield 57, 3) := by decide +kernel
theorem dX10_image_9 : decode cX10_image 9 = .ok (.iconst 0, 1) := by decide +kernel
theorem dX10_image_10 : decode cX10_image 10 = .ok (.bipush 12, 2) := by decide +kernel
theorem dX10_image_12 : decode cX10_image 12 = .ok (.invokestatic 357, 3) := by decide +kernel
theorem dX10_image_15 : decode cX10_image 15 = .ok (.aload_n 0, 1) := by decide +kernel
theorem dX10_image_16 : decode cX10_image 16 = .ok (.getfield 26, 3) := by decide +kernel
theorem dX10_image_19 : decode cX10_image 19 = .ok (.iconst 0, 1) := by decide +kernel
theorem dX10_image_20 : decode cX10_image 20 = .ok (.aload_n 0, 1) := by decide +kernel
theorem dX10_image_21 : decode cX10_image 21 = .ok (.getfield 60, 3) := by decide +kernel
theorem dX10_image_24 : decode cX10_image 24 = .ok (.iconst 0, 1) := by decide +kernel
theorem dX10_image_25 : decode cX10_image 25 = .ok (.bipush 8, 2) := by decide +kernel
theorem dX10_image_27 : decode cX10_image 27 = .ok (.invokestatic 357, 3) := by decide +kernel
theorem dX10_image_30 : decode cX10_image 30 = .ok (.iconst 0, 1) := by decide +kernel
theorem dX10_image_31 : decode cX10_image 31 = .ok (.istore_n 1, 1) := by decide +kernel
theorem dX10_image_32 : decode cX10_image 32 = .ok (.iload_n 1, 1) := by decide +kernel
theorem dX10_image_33 : decode cX10_image 33 = .ok (.bipush 12, 2) := by decide +kernel
theorem dX10_image_35 : decode cX10_image 35 = .ok (.if_icmp .ge 69, 3) := by decide +kernel
theorem dX10_image_38 : decode cX10_image 38 = .ok (.aload_n 0, 1) := by decide +kernel
theorem dX10_image_39 : decode cX10_image 39 = .ok (.getfield 15, 3) := by decide +kernel
theorem dX10_image_42 : decode cX10_image 42 = .ok (.iload_n 1, 1) := by decide +kernel
theorem dX10_image_43 : decode cX10_image 43 = .ok (.aaload, 1) := by decide +kernel
theorem dX10_image_44 : decode cX10_image 44 = .ok (.iconst 0, 1) := by decide +kernel
theorem dX10_image_45 : decode cX10_image 45 = .ok (.aload_n 0, 1) := by decide +kernel
theorem dX10_image_46 : decode cX10_image 46 = .ok (.getfield 63, 3) := by decide +kernel
theorem dX10_image_49 : decode cX10_image 49 = .ok (.iload_n 1, 1) := by decide +kernel
theorem dX10_image_50 : decode cX10_image 50 = .ok (.aaload, 1) := by decide +kernel
theorem dX10_image_51 : decode cX10_image 51 = .ok (.iconst 0, 1) := by decide +kernel
theorem dX10_image_52 : decode cX10_image 52 = .ok (.sipush 200, 3) := by decide +kernel
theorem dX10_image_55 : decode cX10_image 55 = .ok (.invokestatic 357, 3) := by decide +kernel
theorem dX10_image_58 : decode cX10_image 58 = .ok (.aload_n 0, 1) := by decide +kernel
theorem dX10_image_59 : decode cX10_image 59 = .ok (.getfield 23, 3) := by decide +kernel
theorem dX10_image_62 : decode cX10_image 62 = .ok (.iload_n 1, 1) := by decide +kernel
theorem dX10_image_63 : decode cX10_image 63 = .ok (.aaload, 1) := by decide +kernel
theorem dX10_image_64 : decode cX10_image 64 = .ok (.iconst 0, 1) := by decide +kernel
theorem dX10_image_65 : decode cX10_image 65 = .ok (.aload_n 0, 1) := by decide +kernel
theorem dX10_image_66 : decode cX10_image 66 = .ok (.getfield 66, 3) := by decide +kernel
theorem dX10_image_69 : decode cX10_image 69 = .ok (.iload_n 1, 1) := by decide +kernel
theorem dX10_image_70 : decode cX10_image 70 = .ok (.aaload, 1) := by decide +kernel
theorem dX10_image_71 : decode cX10_image 71 = .ok (.iconst 0, 1) := by decide +kernel
theorem dX10_image_72 : decode cX10_image 72 = .ok (.sipush 200, 3) := by decide +kernel
theorem dX10_image_75 : decode cX10_image 75 = .ok (.invokestatic 357, 3) := by decide +kernel
theorem dX10_image_78 : decode cX10_image 78 = .ok (.aload_n 0, 1) := by decide +kernel
theorem dX10_image_79 : decode cX10_image 79 = .ok (.getfield 20, 3) := by decide +kernel
theorem dX10_image_82 : decode cX10_image 82 = .ok (.iload_n 1, 1) := by decide +kernel
theorem dX10_image_83 : decode cX10_image 83 = .ok (.aaload, 1) := by decide +kernel
theorem dX10_image_84 : decode cX10_image 84 = .ok (.iconst 0, 1) := by decide +kernel
theorem dX10_image_85 : decode cX10_image 85 = .ok (.aload_n 0, 1) := by decide +kernel
theorem dX10_image_86 : decode cX10_image 86 = .ok (.getfield 69, 3) := by decide +kernel
theorem dX10_image_89 : decode cX10_image 89 = .ok (.iload_n 1, 1) := by decide +kernel
theorem dX10_image_90 : decode cX10_image 90 = .ok (.aaload, 1) := by decide +kernel
theorem dX10_image_91 : decode cX10_image 91 = .ok (.iconst 0, 1) := by decide +kernel
theorem dX10_image_92 : decode cX10_image 92 = .ok (.sipush 200, 3) := by decide +kernel
theorem dX10_image_95 : decode cX10_image 95 = .ok (.invokestatic 357, 3) := by decide +kernel
theorem dX10_image_98 : decode cX10_image 98 = .ok (.iinc 1 1, 3) := by decide +kernel
theorem dX10_image_101 : decode cX10_image 101 = .ok (.goto (-69), 3) := by decide +kernel
theorem dX10_image_104 : decode cX10_image 104 = .ok (.aload_n 0, 1) := by decide +kernel
theorem dX10_image_105 : decode cX10_image 105 = .ok (.iconst 1, 1) := by decide +kernel
theorem dX10_image_106 : decode cX10_image 106 = .ok (.putfield 363, 3) := by decide +kernel
theorem dX10_image_109 : decode cX10_image 109 = .ok (.aload_n 0, 1) := by decide +kernel
theorem dX10_image_110 : decode cX10_image 110 = .ok (.invokevirtual 366, 3) := by decide +kernel
theorem dX10_image_113 : decode cX10_image 113 = .ok (.ireturn, 1) := by decide +kernel
theorem dX10_back_0 : decode cX10_back 0 = .ok (.aload_n 0, 1) := by decide +kernel
theorem dX10_back_1 : decode cX10_back 1 = .ok (.getfield 363, 3) := by decide +kernel
theorem dX10_back_4 : decode cX10_back 4 = .ok (.ifCond .ne 6, 3) := by decide +kernel
theorem dX10_back_7 : decode cX10_back 7 = .ok (.bipush (-3), 2) := by decide +kernel
theorem dX10_back_9 : decode cX10_back 9 = .ok (.ireturn, 1) := by decide +kernel
theorem dX10_back_10 : decode cX10_back 10 = .ok (.aload_n 0, 1) := by decide +kernel
theorem dX10_back_11 : decode cX10_back 11 = .ok (.getfield 57, 3) := by decide +kernel
theorem dX10_back_14 : decode cX10_back 14 = .ok (.iconst 0, 1) := by decide +kernel
theorem dX10_back_15 : decode cX10_back 15 = .ok (.aload_n 0, 1) := by decide +kernel
theorem dX10_back_16 : decode cX10_back 16 = .ok (.getfield 9, 3) := by decide +kernel
theorem dX10_back_19 : decode cX10_back 19 = .ok (.iconst 0, 1) := by decide +kernel
theorem dX10_back_20 : decode cX10_back 20 = .ok (.bipush 12, 2) := by decide +kernel
theorem dX10_back_22 : decode cX10_back 22 = .ok (.invokestatic 357, 3) := by decide +kernel
theorem dX10_back_25 : decode cX10_back 25 = .ok (.aload_n 0, 1) := by decide +kernel
theorem dX10_back_26 : decode cX10_back 26 = .ok (.getfield 60, 3) := by decide +kernel
theorem dX10_back_29 : decode cX10_back 29 = .ok (.iconst 0, 1) := by decide +kernel
theorem dX10_back_30 : decode cX10_back 30 = .ok (.aload_n 0, 1) := by decide +kernel
theorem dX10_back_31 : decode cX10_back 31 = .ok (.getfield 26, 3) := by decide +kernel
theorem dX10_back_34 : decode cX10_back 34 = .ok (.iconst 0, 1) := by decide +kernel
theorem dX10_back_35 : decode cX10_back 35 = .ok (.bipush 8, 2) := by decide +kernel
theorem dX10_back_37 : decode cX10_back 37 = .ok (.invokestatic 357, 3) := by decide +kernel
theorem dX10_back_40 : decode cX10_back 40 = .ok (.iconst 0, 1) := by decide +kernel
theorem dX10_back_41 : decode cX10_back 41 = .ok (.istore_n 1, 1) := by decide +kernel
theorem dX10_back_42 : decode cX10_back 42 = .ok (.iload_n 1, 1) := by decide +kernel
theorem dX10_back_43 : decode cX10_back 43 = .ok (.bipush 12, 2) := by decide +kernel
theorem dX10_back_45 : decode cX10_back 45 = .ok (.if_icmp .ge 69, 3) := by decide +kernel
theorem dX10_back_48 : decode cX10_back 48 = .ok (.aload_n 0, 1) := by decide +kernel
theorem dX10_back_49 : decode cX10_back 49 = .ok (.getfield 63, 3) := by decide +kernel
theorem dX10_back_52 : decode cX10_back 52 = .ok (.iload_n 1, 1) := by decide +kernel
theorem dX10_back_53 : decode cX10_back 53 = .ok (.aaload, 1) := by decide +kernel
theorem dX10_back_54 : decode cX10_back 54 = .ok (.iconst 0, 1) := by decide +kernel
theorem dX10_back_55 : decode cX10_back 55 = .ok (.aload_n 0, 1) := by decide +kernel
theorem dX10_back_56 : decode cX10_back 56 = .ok (.getfield 15, 3) := by decide +kernel
theorem dX10_back_59 : decode cX10_back 59 = .ok (.iload_n 1, 1) := by decide +kernel
theorem dX10_back_60 : decode cX10_back 60 = .ok (.aaload, 1) := by decide +kernel
theorem dX10_back_61 : decode cX10_back 61 = .ok (.iconst 0, 1) := by decide +kernel
theorem dX10_back_62 : decode cX10_back 62 = .ok (.sipush 200, 3) := by decide +kernel
theorem dX10_back_65 : decode cX10_back 65 = .ok (.invokestatic 357, 3) := by decide +kernel
theorem dX10_back_68 : decode cX10_back 68 = .ok (.aload_n 0, 1) := by decide +kernel
theorem dX10_back_69 : decode cX10_back 69 = .ok (.getfield 66, 3) := by decide +kernel
theorem dX10_back_72 : decode cX10_back 72 = .ok (.iload_n 1, 1) := by decide +kernel
theorem dX10_back_73 : decode cX10_back 73 = .ok (.aaload, 1) := by decide +kernel
theorem dX10_back_74 : decode cX10_back 74 = .ok (.iconst 0, 1) := by decide +kernel
theorem dX10_back_75 : decode cX10_back 75 = .ok (.aload_n 0, 1) := by decide +kernel
theorem dX10_back_76 : decode cX10_back 76 = .ok (.getfield 23, 3) := by decide +kernel
theorem dX10_back_79 : decode cX10_back 79 = .ok (.iload_n 1, 1) := by decide +kernel
theorem dX10_back_80 : decode cX10_back 80 = .ok (.aaload, 1) := by decide +kernel
theorem dX10_back_81 : decode cX10_back 81 = .ok (.iconst 0, 1) := by decide +kernel
theorem dX10_back_82 : decode cX10_back 82 = .ok (.sipush 200, 3) := by decide +kernel
theorem dX10_back_85 : decode cX10_back 85 = .ok (.invokestatic 357, 3) := by decide +kernel
theorem dX10_back_88 : decode cX10_back 88 = .ok (.aload_n 0, 1) := by decide +kernel
theorem dX10_back_89 : decode cX10_back 89 = .ok (.getfield 69, 3) := by decide +kernel
theorem dX10_back_92 : decode cX10_back 92 = .ok (.iload_n 1, 1) := by decide +kernel
theorem dX10_back_93 : decode cX10_back 93 = .ok (.aaload, 1) := by decide +kernel
theorem dX10_back_94 : decode cX10_back 94 = .ok (.iconst 0, 1) := by decide +kernel
theorem dX10_back_95 : decode cX10_back 95 = .ok (.aload_n 0, 1) := by decide +kernel
theorem dX10_back_96 : decode cX10_back 96 = .ok (.getfield 20, 3) := by decide +kernel
theorem dX10_back_99 : decode cX10_back 99 = .ok (.iload_n 1, 1) := by decide +kernel
theorem dX10_back_100 : decode cX10_back 100 = .ok (.aaload, 1) := by decide +kernel
theorem dX10_back_101 : decode cX10_back 101 = .ok (.iconst 0, 1) := by decide +kernel
theorem dX10_back_102 : decode cX10_back 102 = .ok (.sipush 200, 3) := by decide +kernel
theorem dX10_back_105 : decode cX10_back 105 = .ok (.invokestatic 357, 3) := by decide +kernel
theorem dX10_back_108 : decode cX10_back 108 = .ok (.iinc 1 1, 3) := by decide +kernel
theorem dX10_back_111 : decode cX10_back 111 = .ok (.goto (-69), 3) := by decide +kernel
theorem dX10_back_114 : decode cX10_back 114 = .ok (.aload_n 0, 1) := by decide +kernel
theorem dX10_back_115 : decode cX10_back 115 = .ok (.invokevirtual 366, 3) := by decide +kernel
theorem dX10_back_118 : decode cX10_back 118 = .ok (.ireturn, 1) := by decide +kernel
theorem dX10_count_0 : decode cX10_count 0 = .ok (.iload_n 1, 1) := by decide +kernel
theorem dX10_count_1 : decode cX10_count 1 = .ok (.ifCond .ne 8, 3) := by decide +kernel
theorem dX10_count_4 : decode cX10_count 4 = .ok (.aload_n 0, 1) := by decide +kernel
theorem dX10_count_5 : decode cX10_count 5 = .ok (.invokevirtual 366, 3) := by decide +kernel
theorem dX10_count_8 : decode cX10_count 8 = .ok (.ireturn, 1) := by decide +kernel
theorem dX10_count_9 : decode cX10_count 9 = .ok (.iload_n 1, 1) := by decide +kernel
theorem dX10_count_10 : decode cX10_count 10 = .ok (.iconst 1, 1) := by decide +kernel
theorem dX10_count_11 : decode cX10_count 11 = .ok (.if_icmp .ne 8, 3) := by decide +kernel
theorem dX10_count_14 : decode cX10_count 14 = .ok (.aload_n 0, 1) := by decide +kernel
theorem dX10_count_15 : decode cX10_count 15 = .ok (.getfield 117, 3) := by decide +kernel
theorem dX10_count_18 : decode cX10_count 18 = .ok (.ireturn, 1) := by decide +kernel
theorem dX10_count_19 : decode cX10_count 19 = .ok (.iload_n 1, 1) := by decide +kernel
theorem dX10_count_20 : decode cX10_count 20 = .ok (.bipush 10, 2) := by decide +kernel
theorem dX10_count_22 : decode cX10_count 22 = .ok (.bipush 17, 2) := by decide +kernel
theorem dX10_count_24 : decode cX10_count 24 = .ok (.invokestatic 84, 3) := by decide +kernel
theorem dX10_count_27 : decode cX10_count 27 = .ok (.ifCond .eq 13, 3) := by decide +kernel
theorem dX10_count_30 : decode cX10_count 30 = .ok (.aload_n 0, 1) := by decide +kernel
theorem dX10_count_31 : decode cX10_count 31 = .ok (.getfield 26, 3) := by decide +kernel
theorem dX10_count_34 : decode cX10_count 34 = .ok (.iload_n 1, 1) := by decide +kernel
theorem dX10_count_35 : decode cX10_count 35 = .ok (.bipush 10, 2) := by decide +kernel
theorem dX10_count_37 : decode cX10_count 37 = .ok (.isub, 1) := by decide +kernel
theorem dX10_count_38 : decode cX10_count 38 = .ok (.iaload, 1) := by decide +kernel
theorem dX10_count_39 : decode cX10_count 39 = .ok (.ireturn, 1) := by decide +kernel
theorem dX10_count_40 : decode cX10_count 40 = .ok (.iload_n 1, 1) := by decide +kernel
theorem dX10_count_41 : decode cX10_count 41 = .ok (.iconst 2, 1) := by decide +kernel
theorem dX10_count_42 : decode cX10_count 42 = .ok (.if_icmp .eq 6, 3) := by decide +kernel
theorem dX10_count_45 : decode cX10_count 45 = .ok (.bipush (-2), 2) := by decide +kernel
theorem dX10_count_47 : decode cX10_count 47 = .ok (.ireturn, 1) := by decide +kernel
theorem dX10_count_48 : decode cX10_count 48 = .ok (.iconst 0, 1) := by decide +kernel
theorem dX10_count_49 : decode cX10_count 49 = .ok (.istore_n 2, 1) := by decide +kernel
theorem dX10_count_50 : decode cX10_count 50 = .ok (.iconst 0, 1) := by decide +kernel
theorem dX10_count_51 : decode cX10_count 51 = .ok (.istore_n 3, 1) := by decide +kernel
theorem dX10_count_52 : decode cX10_count 52 = .ok (.iload_n 3, 1) := by decide +kernel
theorem dX10_count_53 : decode cX10_count 53 = .ok (.bipush 12, 2) := by decide +kernel
theorem dX10_count_55 : decode cX10_count 55 = .ok (.if_icmp .ge 18, 3) := by decide +kernel
theorem dX10_count_58 : decode cX10_count 58 = .ok (.iload_n 2, 1) := by decide +kernel
theorem dX10_count_59 : decode cX10_count 59 = .ok (.aload_n 0, 1) := by decide +kernel
theorem dX10_count_60 : decode cX10_count 60 = .ok (.getfield 9, 3) := by decide +kernel
theorem dX10_count_63 : decode cX10_count 63 = .ok (.iload_n 3, 1) := by decide +kernel
theorem dX10_count_64 : decode cX10_count 64 = .ok (.iaload, 1) := by decide +kernel
theorem dX10_count_65 : decode cX10_count 65 = .ok (.iadd, 1) := by decide +kernel
theorem dX10_count_66 : decode cX10_count 66 = .ok (.istore_n 2, 1) := by decide +kernel
theorem dX10_count_67 : decode cX10_count 67 = .ok (.iinc 3 1, 3) := by decide +kernel
theorem dX10_count_70 : decode cX10_count 70 = .ok (.goto (-18), 3) := by decide +kernel
theorem dX10_count_73 : decode cX10_count 73 = .ok (.iload_n 2, 1) := by decide +kernel
theorem dX10_count_74 : decode cX10_count 74 = .ok (.ireturn, 1) := by decide +kernel
theorem dX10_isSheet_0 : decode cX10_isSheet 0 = .ok (.iload_n 0, 1) := by decide +kernel
theorem dX10_isSheet_1 : decode cX10_isSheet 1 = .ok (.iconst 0, 1) := by decide +kernel
theorem dX10_isSheet_2 : decode cX10_isSheet 2 = .ok (.iconst 3, 1) := by decide +kernel
theorem dX10_isSheet_3 : decode cX10_isSheet 3 = .ok (.invokestatic 84, 3) := by decide +kernel
theorem dX10_isSheet_6 : decode cX10_isSheet 6 = .ok (.ireturn, 1) := by decide +kernel
theorem dX10_sheet_0 : decode cX10_sheet 0 = .ok (.iload_n 1, 1) := by decide +kernel
theorem dX10_sheet_1 : decode cX10_sheet 1 = .ok (.invokestatic 347, 3) := by decide +kernel
theorem dX10_sheet_4 : decode cX10_sheet 4 = .ok (.ifCond .eq 22, 3) := by decide +kernel
theorem dX10_sheet_7 : decode cX10_sheet 7 = .ok (.iload_n 2, 1) := by decide +kernel
theorem dX10_sheet_8 : decode cX10_sheet 8 = .ok (.iconst (-1), 1) := by decide +kernel
theorem dX10_sheet_9 : decode cX10_sheet 9 = .ok (.iconst 1, 1) := by decide +kernel
theorem dX10_sheet_10 : decode cX10_sheet 10 = .ok (.invokestatic 84, 3) := by decide +kernel
theorem dX10_sheet_13 : decode cX10_sheet 13 = .ok (.ifCond .eq 13, 3) := by decide +kernel
theorem dX10_sheet_16 : decode cX10_sheet 16 = .ok (.iload_n 2, 1) := by decide +kernel
theorem dX10_sheet_17 : decode cX10_sheet 17 = .ok (.ifCond .lt 12, 3) := by decide +kernel
theorem dX10_sheet_20 : decode cX10_sheet 20 = .ok (.iload_n 3, 1) := by decide +kernel
theorem dX10_sheet_21 : decode cX10_sheet 21 = .ok (.bipush 40, 2) := by decide +kernel
theorem dX10_sheet_23 : decode cX10_sheet 23 = .ok (.if_icmp .le 6, 3) := by decide +kernel
theorem dX10_sheet_26 : decode cX10_sheet 26 = .ok (.bipush (-2), 2) := by decide +kernel
theorem dX10_sheet_28 : decode cX10_sheet 28 = .ok (.ireturn, 1) := by decide +kernel
theorem dX10_sheet_29 : decode cX10_sheet 29 = .ok (.iload_n 2, 1) := by decide +kernel
theorem dX10_sheet_30 : decode cX10_sheet 30 = .ok (.ifCond .lt 10, 3) := by decide +kernel
theorem dX10_sheet_33 : decode cX10_sheet 33 = .ok (.iload_n 3, 1) := by decide +kernel
theorem dX10_sheet_34 : decode cX10_sheet 34 = .ok (.ifCond .ge 6, 3) := by decide +kernel
theorem dX10_sheet_37 : decode cX10_sheet 37 = .ok (.bipush (-14), 2) := by decide +kernel
theorem dX10_sheet_39 : decode cX10_sheet 39 = .ok (.ireturn, 1) := by decide +kernel
theorem dX10_sheet_40 : decode cX10_sheet 40 = .ok (.aload_n 0, 1) := by decide +kernel
theorem dX10_sheet_41 : decode cX10_sheet 41 = .ok (.getfield 72, 3) := by decide +kernel
theorem dX10_sheet_44 : decode cX10_sheet 44 = .ok (.iload_n 1, 1) := by decide +kernel
theorem dX10_sheet_45 : decode cX10_sheet 45 = .ok (.iload_n 2, 1) := by decide +kernel
theorem dX10_sheet_46 : decode cX10_sheet 46 = .ok (.iastore, 1) := by decide +kernel
theorem dX10_sheet_47 : decode cX10_sheet 47 = .ok (.aload_n 0, 1) := by decide +kernel
theorem dX10_sheet_48 : decode cX10_sheet 48 = .ok (.getfield 75, 3) := by decide +kernel
theorem dX10_sheet_51 : decode cX10_sheet 51 = .ok (.iload_n 1, 1) := by decide +kernel
theorem dX10_sheet_52 : decode cX10_sheet 52 = .ok (.iload_n 2, 1) := by decide +kernel
theorem dX10_sheet_53 : decode cX10_sheet 53 = .ok (.ifCond .ge 7, 3) := by decide +kernel
theorem dX10_sheet_56 : decode cX10_sheet 56 = .ok (.iconst 0, 1) := by decide +kernel
theorem dX10_sheet_57 : decode cX10_sheet 57 = .ok (.goto 4, 3) := by decide +kernel
theorem dX10_sheet_60 : decode cX10_sheet 60 = .ok (.iload_n 3, 1) := by decide +kernel
theorem dX10_sheet_61 : decode cX10_sheet 61 = .ok (.iastore, 1) := by decide +kernel
theorem dX10_sheet_62 : decode cX10_sheet 62 = .ok (.iconst 0, 1) := by decide +kernel
theorem dX10_sheet_63 : decode cX10_sheet 63 = .ok (.istore 4, 2) := by decide +kernel
theorem dX10_sheet_65 : decode cX10_sheet 65 = .ok (.iload 4, 2) := by decide +kernel
theorem dX10_sheet_67 : decode cX10_sheet 67 = .ok (.bipush 40, 2) := by decide +kernel
theorem dX10_sheet_69 : decode cX10_sheet 69 = .ok (.if_icmp .ge 19, 3) := by decide +kernel
theorem dX10_sheet_72 : decode cX10_sheet 72 = .ok (.aload_n 0, 1) := by decide +kernel
theorem dX10_sheet_73 : decode cX10_sheet 73 = .ok (.getfield 78, 3) := by decide +kernel
theorem dX10_sheet_76 : decode cX10_sheet 76 = .ok (.iload_n 1, 1) := by decide +kernel
theorem dX10_sheet_77 : decode cX10_sheet 77 = .ok (.aaload, 1) := by decide +kernel
theorem dX10_sheet_78 : decode cX10_sheet 78 = .ok (.iload 4, 2) := by decide +kernel
theorem dX10_sheet_80 : decode cX10_sheet 80 = .ok (.iconst 0, 1) := by decide +kernel
theorem dX10_sheet_81 : decode cX10_sheet 81 = .ok (.iastore, 1) := by decide +kernel
theorem dX10_sheet_82 : decode cX10_sheet 82 = .ok (.iinc 4 1, 3) := by decide +kernel
theorem dX10_sheet_85 : decode cX10_sheet 85 = .ok (.goto (-20), 3) := by decide +kernel
theorem dX10_sheet_88 : decode cX10_sheet 88 = .ok (.iconst 1, 1) := by decide +kernel
theorem dX10_sheet_89 : decode cX10_sheet 89 = .ok (.ireturn, 1) := by decide +kernel
theorem dX10_cell_0 : decode cX10_cell 0 = .ok (.iload_n 1, 1) := by decide +kernel
theorem dX10_cell_1 : decode cX10_cell 1 = .ok (.invokestatic 347, 3) := by decide +kernel
theorem dX10_cell_4 : decode cX10_cell 4 = .ok (.ifCond .ne 6, 3) := by decide +kernel
theorem dX10_cell_7 : decode cX10_cell 7 = .ok (.bipush (-2), 2) := by decide +kernel
theorem dX10_cell_9 : decode cX10_cell 9 = .ok (.ireturn, 1) := by decide +kernel
theorem dX10_cell_10 : decode cX10_cell 10 = .ok (.aload_n 0, 1) := by decide +kernel
theorem dX10_cell_11 : decode cX10_cell 11 = .ok (.getfield 72, 3) := by decide +kernel
theorem dX10_cell_14 : decode cX10_cell 14 = .ok (.iload_n 1, 1) := by decide +kernel
theorem dX10_cell_15 : decode cX10_cell 15 = .ok (.iaload, 1) := by decide +kernel
theorem dX10_cell_16 : decode cX10_cell 16 = .ok (.ifCond .ge 6, 3) := by decide +kernel
theorem dX10_cell_19 : decode cX10_cell 19 = .ok (.bipush (-11), 2) := by decide +kernel
theorem dX10_cell_21 : decode cX10_cell 21 = .ok (.ireturn, 1) := by decide +kernel
theorem dX10_cell_22 : decode cX10_cell 22 = .ok (.iload_n 2, 1) := by decide +kernel
theorem dX10_cell_23 : decode cX10_cell 23 = .ok (.iconst 0, 1) := by decide +kernel
theorem dX10_cell_24 : decode cX10_cell 24 = .ok (.aload_n 0, 1) := by decide +kernel
theorem dX10_cell_25 : decode cX10_cell 25 = .ok (.getfield 75, 3) := by decide +kernel
theorem dX10_cell_28 : decode cX10_cell 28 = .ok (.iload_n 1, 1) := by decide +kernel
theorem dX10_cell_29 : decode cX10_cell 29 = .ok (.iaload, 1) := by decide +kernel
theorem dX10_cell_30 : decode cX10_cell 30 = .ok (.iconst 1, 1) := by decide +kernel
theorem dX10_cell_31 : decode cX10_cell 31 = .ok (.isub, 1) := by decide +kernel
theorem dX10_cell_32 : decode cX10_cell 32 = .ok (.invokestatic 84, 3) := by decide +kernel
theorem dX10_cell_35 : decode cX10_cell 35 = .ok (.ifCond .ne 6, 3) := by decide +kernel
theorem dX10_cell_38 : decode cX10_cell 38 = .ok (.bipush (-12), 2) := by decide +kernel
theorem dX10_cell_40 : decode cX10_cell 40 = .ok (.ireturn, 1) := by decide +kernel
theorem dX10_cell_41 : decode cX10_cell 41 = .ok (.aload_n 0, 1) := by decide +kernel
theorem dX10_cell_42 : decode cX10_cell 42 = .ok (.getfield 78, 3) := by decide +kernel
theorem dX10_cell_45 : decode cX10_cell 45 = .ok (.iload_n 1, 1) := by decide +kernel
theorem dX10_cell_46 : decode cX10_cell 46 = .ok (.aaload, 1) := by decide +kernel
theorem dX10_cell_47 : decode cX10_cell 47 = .ok (.iload_n 2, 1) := by decide +kernel
theorem dX10_cell_48 : decode cX10_cell 48 = .ok (.aload_n 0, 1) := by decide +kernel
theorem dX10_cell_49 : decode cX10_cell 49 = .ok (.getfield 72, 3) := by decide +kernel
theorem dX10_cell_52 : decode cX10_cell 52 = .ok (.iload_n 1, 1) := by decide +kernel
theorem dX10_cell_53 : decode cX10_cell 53 = .ok (.iaload, 1) := by decide +kernel
theorem dX10_cell_54 : decode cX10_cell 54 = .ok (.ifCond .ne 8, 3) := by decide +kernel
theorem dX10_cell_57 : decode cX10_cell 57 = .ok (.iload_n 3, 1) := by decide +kernel
theorem dX10_cell_58 : decode cX10_cell 58 = .ok (.i2s, 1) := by decide +kernel
theorem dX10_cell_59 : decode cX10_cell 59 = .ok (.goto 4, 3) := by decide +kernel
theorem dX10_cell_62 : decode cX10_cell 62 = .ok (.iload_n 3, 1) := by decide +kernel
theorem dX10_cell_63 : decode cX10_cell 63 = .ok (.iastore, 1) := by decide +kernel
theorem dX10_cell_64 : decode cX10_cell 64 = .ok (.iconst 1, 1) := by decide +kernel
theorem dX10_cell_65 : decode cX10_cell 65 = .ok (.ireturn, 1) := by decide +kernel
theorem dX10_copy_0 : decode cX10_copy 0 = .ok (.iload_n 1, 1) := by decide +kernel
theorem dX10_copy_1 : decode cX10_copy 1 = .ok (.invokestatic 347, 3) := by decide +kernel
theorem dX10_copy_4 : decode cX10_copy 4 = .ok (.ifCond .eq 10, 3) := by decide +kernel
theorem dX10_copy_7 : decode cX10_copy 7 = .ok (.iload_n 3, 1) := by decide +kernel
theorem dX10_copy_8 : decode cX10_copy 8 = .ok (.invokestatic 347, 3) := by decide +kernel
theorem dX10_copy_11 : decode cX10_copy 11 = .ok (.ifCond .ne 6, 3) := by decide +kernel
theorem dX10_copy_14 : decode cX10_copy 14 = .ok (.bipush (-2), 2) := by decide +kernel
theorem dX10_copy_16 : decode cX10_copy 16 = .ok (.ireturn, 1) := by decide +kernel
theorem dX10_copy_17 : decode cX10_copy 17 = .ok (.aload_n 0, 1) := by decide +kernel
theorem dX10_copy_18 : decode cX10_copy 18 = .ok (.getfield 72, 3) := by decide +kernel
theorem dX10_copy_21 : decode cX10_copy 21 = .ok (.iload_n 1, 1) := by decide +kernel
theorem dX10_copy_22 : decode cX10_copy 22 = .ok (.iaload, 1) := by decide +kernel
theorem dX10_copy_23 : decode cX10_copy 23 = .ok (.ifCond .lt 12, 3) := by decide +kernel
theorem dX10_copy_26 : decode cX10_copy 26 = .ok (.aload_n 0, 1) := by decide +kernel
theorem dX10_copy_27 : decode cX10_copy 27 = .ok (.getfield 72, 3) := by decide +kernel
theorem dX10_copy_30 : decode cX10_copy 30 = .ok (.iload_n 3, 1) := by decide +kernel
theorem dX10_copy_31 : decode cX10_copy 31 = .ok (.iaload, 1) := by decide +kernel
theorem dX10_copy_32 : decode cX10_copy 32 = .ok (.ifCond .ge 6, 3) := by decide +kernel
theorem dX10_copy_35 : decode cX10_copy 35 = .ok (.bipush (-11), 2) := by decide +kernel
theorem dX10_copy_37 : decode cX10_copy 37 = .ok (.ireturn, 1) := by decide +kernel
theorem dX10_copy_38 : decode cX10_copy 38 = .ok (.aload_n 0, 1) := by decide +kernel
theorem dX10_copy_39 : decode cX10_copy 39 = .ok (.getfield 72, 3) := by decide +kernel
theorem dX10_copy_42 : decode cX10_copy 42 = .ok (.iload_n 1, 1) := by decide +kernel
theorem dX10_copy_43 : decode cX10_copy 43 = .ok (.iaload, 1) := by decide +kernel
theorem dX10_copy_44 : decode cX10_copy 44 = .ok (.aload_n 0, 1) := by decide +kernel
theorem dX10_copy_45 : decode cX10_copy 45 = .ok (.getfield 72, 3) := by decide +kernel
theorem dX10_copy_48 : decode cX10_copy 48 = .ok (.iload_n 3, 1) := by decide +kernel
theorem dX10_copy_49 : decode cX10_copy 49 = .ok (.iaload, 1) := by decide +kernel
theorem dX10_copy_50 : decode cX10_copy 50 = .ok (.if_icmp .eq 6, 3) := by decide +kernel
theorem dX10_copy_53 : decode cX10_copy 53 = .ok (.bipush (-13), 2) := by decide +kernel
theorem dX10_copy_55 : decode cX10_copy 55 = .ok (.ireturn, 1) := by decide +kernel
theorem dX10_copy_56 : decode cX10_copy 56 = .ok (.iload 5, 2) := by decide +kernel
theorem dX10_copy_58 : decode cX10_copy 58 = .ok (.ifCond .lt 39, 3) := by decide +kernel
theorem dX10_copy_61 : decode cX10_copy 61 = .ok (.iload_n 2, 1) := by decide +kernel
theorem dX10_copy_62 : decode cX10_copy 62 = .ok (.ifCond .lt 35, 3) := by decide +kernel
theorem dX10_copy_65 : decode cX10_copy 65 = .ok (.iload 4, 2) := by decide +kernel
theorem dX10_copy_67 : decode cX10_copy 67 = .ok (.ifCond .lt 30, 3) := by decide +kernel
theorem dX10_copy_70 : decode cX10_copy 70 = .ok (.iload_n 2, 1) := by decide +kernel
theorem dX10_copy_71 : decode cX10_copy 71 = .ok (.aload_n 0, 1) := by decide +kernel
theorem dX10_copy_72 : decode cX10_copy 72 = .ok (.getfield 75, 3) := by decide +kernel
theorem dX10_copy_75 : decode cX10_copy 75 = .ok (.iload_n 1, 1) := by decide +kernel
theorem dX10_copy_76 : decode cX10_copy 76 = .ok (.iaload, 1) := by decide +kernel
theorem dX10_copy_77 : decode cX10_copy 77 = .ok (.iload 5, 2) := by decide +kernel
theorem dX10_copy_79 : decode cX10_copy 79 = .ok (.isub, 1) := by decide +kernel
theorem dX10_copy_80 : decode cX10_copy 80 = .ok (.if_icmp .gt 17, 3) := by decide +kernel
theorem dX10_copy_83 : decode cX10_copy 83 = .ok (.iload 4, 2) := by decide +kernel
theorem dX10_copy_85 : decode cX10_copy 85 = .ok (.aload_n 0, 1) := by decide +kernel
theorem dX10_copy_86 : decode cX10_copy 86 = .ok (.getfield 75, 3) := by decide +kernel
theorem dX10_copy_89 : decode cX10_copy 89 = .ok (.iload_n 3, 1) := by decide +kernel
theorem dX10_copy_90 : decode cX10_copy 90 = .ok (.iaload, 1) := by decide +kernel
theorem dX10_copy_91 : decode cX10_copy 91 = .ok (.iload 5, 2) := by decide +kernel
theorem dX10_copy_93 : decode cX10_copy 93 = .ok (.isub, 1) := by decide +kernel
theorem dX10_copy_94 : decode cX10_copy 94 = .ok (.if_icmp .le 6, 3) := by decide +kernel
theorem dX10_copy_97 : decode cX10_copy 97 = .ok (.bipush (-12), 2) := by decide +kernel
theorem dX10_copy_99 : decode cX10_copy 99 = .ok (.ireturn, 1) := by decide +kernel
theorem dX10_copy_100 : decode cX10_copy 100 = .ok (.aload_n 0, 1) := by decide +kernel
theorem dX10_copy_101 : decode cX10_copy 101 = .ok (.getfield 78, 3) := by decide +kernel
theorem dX10_copy_104 : decode cX10_copy 104 = .ok (.iload_n 1, 1) := by decide +kernel
theorem dX10_copy_105 : decode cX10_copy 105 = .ok (.aaload, 1) := by decide +kernel
theorem dX10_copy_106 : decode cX10_copy 106 = .ok (.iload_n 2, 1) := by decide +kernel
theorem dX10_copy_107 : decode cX10_copy 107 = .ok (.aload_n 0, 1) := by decide +kernel
theorem dX10_copy_108 : decode cX10_copy 108 = .ok (.getfield 81, 3) := by decide +kernel
theorem dX10_copy_111 : decode cX10_copy 111 = .ok (.iconst 0, 1) := by decide +kernel
theorem dX10_copy_112 : decode cX10_copy 112 = .ok (.iload 5, 2) := by decide +kernel
theorem dX10_copy_114 : decode cX10_copy 114 = .ok (.invokestatic 357, 3) := by decide +kernel
theorem dX10_copy_117 : decode cX10_copy 117 = .ok (.aload_n 0, 1) := by decide +kernel
theorem dX10_copy_118 : decode cX10_copy 118 = .ok (.getfield 81, 3) := by decide +kernel
theorem dX10_copy_121 : decode cX10_copy 121 = .ok (.iconst 0, 1) := by decide +kernel
theorem dX10_copy_122 : decode cX10_copy 122 = .ok (.aload_n 0, 1) := by decide +kernel
theorem dX10_copy_123 : decode cX10_copy 123 = .ok (.getfield 78, 3) := by decide +kernel
theorem dX10_copy_126 : decode cX10_copy 126 = .ok (.iload_n 3, 1) := by decide +kernel
theorem dX10_copy_127 : decode cX10_copy 127 = .ok (.aaload, 1) := by decide +kernel
theorem dX10_copy_128 : decode cX10_copy 128 = .ok (.iload 4, 2) := by decide +kernel
theorem dX10_copy_130 : decode cX10_copy 130 = .ok (.iload 5, 2) := by decide +kernel
theorem dX10_copy_132 : decode cX10_copy 132 = .ok (.invokestatic 357, 3) := by decide +kernel
theorem dX10_copy_135 : decode cX10_copy 135 = .ok (.iload 5, 2) := by decide +kernel
theorem dX10_copy_137 : decode cX10_copy 137 = .ok (.ireturn, 1) := by decide +kernel
theorem dJ0_length_8abf5_0 : decode cJ0_length_8abf5 0 = .ok (.aload_n 0, 1) := by decide +kernel
theorem dJ0_length_8abf5_1 : decode cJ0_length_8abf5 1 = .ok (.getfield 9, 3) := by decide +kernel
theorem dJ0_length_8abf5_4 : decode cJ0_length_8abf5 4 = .ok (.arraylength, 1) := by decide +kernel
theorem dJ0_length_8abf5_5 : decode cJ0_length_8abf5 5 = .ok (.aload_n 0, 1) := by decide +kernel
theorem dJ0_length_8abf5_6 : decode cJ0_length_8abf5 6 = .ok (.invokevirtual 335, 3) := by decide +kernel
theorem dJ0_length_8abf5_9 : decode cJ0_length_8abf5 9 = .ok (.ishr, 1) := by decide +kernel
theorem dJ0_length_8abf5_10 : decode cJ0_length_8abf5 10 = .ok (.ireturn, 1) := by decide +kernel
theorem dJ0_indexOf_0f7a4_0 : decode cJ0_indexOf_0f7a4 0 = .ok (.aload_n 0, 1) := by decide +kernel
theorem dJ0_indexOf_0f7a4_1 : decode cJ0_indexOf_0f7a4 1 = .ok (.iload_n 1, 1) := by decide +kernel
theorem dJ0_indexOf_0f7a4_2 : decode cJ0_indexOf_0f7a4 2 = .ok (.iconst 0, 1) := by decide +kernel
theorem dJ0_indexOf_0f7a4_3 : decode cJ0_indexOf_0f7a4 3 = .ok (.invokevirtual 633, 3) := by decide +kernel
theorem dJ0_indexOf_0f7a4_6 : decode cJ0_indexOf_0f7a4 6 = .ok (.ireturn, 1) := by decide +kernel
theorem dJ0_indexOf_7cf53_0 : decode cJ0_indexOf_7cf53 0 = .ok (.aload_n 0, 1) := by decide +kernel
theorem dJ0_indexOf_7cf53_1 : decode cJ0_indexOf_7cf53 1 = .ok (.invokevirtual 492, 3) := by decide +kernel
theorem dJ0_indexOf_7cf53_4 : decode cJ0_indexOf_7cf53 4 = .ok (.ifCond .eq 19, 3) := by decide +kernel
theorem dJ0_indexOf_7cf53_7 : decode cJ0_indexOf_7cf53 7 = .ok (.aload_n 0, 1) := by decide +kernel
theorem dJ0_indexOf_7cf53_8 : decode cJ0_indexOf_7cf53 8 = .ok (.getfield 9, 3) := by decide +kernel
theorem dJ0_indexOf_7cf53_11 : decode cJ0_indexOf_7cf53 11 = .ok (.iload_n 1, 1) := by decide +kernel
theorem dJ0_indexOf_7cf53_12 : decode cJ0_indexOf_7cf53 12 = .ok (.iload_n 2, 1) := by decide +kernel
theorem dJ0_indexOf_7cf53_13 : decode cJ0_indexOf_7cf53 13 = .ok (.aload_n 0, 1) := by decide +kernel
theorem dJ0_indexOf_7cf53_14 : decode cJ0_indexOf_7cf53 14 = .ok (.invokevirtual 505, 3) := by decide +kernel
theorem dJ0_indexOf_7cf53_17 : decode cJ0_indexOf_7cf53 17 = .ok (.invokestatic 637, 3) := by decide +kernel
theorem dJ0_indexOf_7cf53_20 : decode cJ0_indexOf_7cf53 20 = .ok (.goto 16, 3) := by decide +kernel
theorem dJ0_indexOf_7cf53_23 : decode cJ0_indexOf_7cf53 23 = .ok (.aload_n 0, 1) := by decide +kernel
theorem dJ0_indexOf_7cf53_24 : decode cJ0_indexOf_7cf53 24 = .ok (.getfield 9, 3) := by decide +kernel
theorem dJ0_indexOf_7cf53_27 : decode cJ0_indexOf_7cf53 27 = .ok (.iload_n 1, 1) := by decide +kernel
theorem dJ0_indexOf_7cf53_28 : decode cJ0_indexOf_7cf53 28 = .ok (.iload_n 2, 1) := by decide +kernel
theorem dJ0_indexOf_7cf53_29 : decode cJ0_indexOf_7cf53 29 = .ok (.aload_n 0, 1) := by decide +kernel
theorem dJ0_indexOf_7cf53_30 : decode cJ0_indexOf_7cf53 30 = .ok (.invokevirtual 505, 3) := by decide +kernel
theorem dJ0_indexOf_7cf53_33 : decode cJ0_indexOf_7cf53 33 = .ok (.invokestatic 640, 3) := by decide +kernel
theorem dJ0_indexOf_7cf53_36 : decode cJ0_indexOf_7cf53 36 = .ok (.ireturn, 1) := by decide +kernel
theorem dJ0_coder_7d493_0 : decode cJ0_coder_7d493 0 = .ok (.getstatic 38, 3) := by decide +kernel
theorem dJ0_coder_7d493_3 : decode cJ0_coder_7d493 3 = .ok (.ifCond .eq 10, 3) := by decide +kernel
theorem dJ0_coder_7d493_6 : decode cJ0_coder_7d493 6 = .ok (.aload_n 0, 1) := by decide +kernel
theorem dJ0_coder_7d493_7 : decode cJ0_coder_7d493 7 = .ok (.getfield 15, 3) := by decide +kernel
theorem dJ0_coder_7d493_10 : decode cJ0_coder_7d493 10 = .ok (.goto 4, 3) := by decide +kernel
theorem dJ0_coder_7d493_13 : decode cJ0_coder_7d493 13 = .ok (.iconst 1, 1) := by decide +kernel
theorem dJ0_coder_7d493_14 : decode cJ0_coder_7d493 14 = .ok (.ireturn, 1) := by decide +kernel
theorem dJ0_isLatin1_aae02_0 : decode cJ0_isLatin1_aae02 0 = .ok (.getstatic 38, 3) := by decide +kernel
theorem dJ0_isLatin1_aae02_3 : decode cJ0_isLatin1_aae02 3 = .ok (.ifCond .eq 14, 3) := by decide +kernel
theorem dJ0_isLatin1_aae02_6 : decode cJ0_isLatin1_aae02 6 = .ok (.aload_n 0, 1) := by decide +kernel
theorem dJ0_isLatin1_aae02_7 : decode cJ0_isLatin1_aae02 7 = .ok (.getfield 15, 3) := by decide +kernel
theorem dJ0_isLatin1_aae02_10 : decode cJ0_isLatin1_aae02 10 = .ok (.ifCond .ne 7, 3) := by decide +kernel
theorem dJ0_isLatin1_aae02_13 : decode cJ0_isLatin1_aae02 13 = .ok (.iconst 1, 1) := by decide +kernel
theorem dJ0_isLatin1_aae02_14 : decode cJ0_isLatin1_aae02 14 = .ok (.goto 4, 3) := by decide +kernel
theorem dJ0_isLatin1_aae02_17 : decode cJ0_isLatin1_aae02 17 = .ok (.iconst 0, 1) := by decide +kernel
theorem dJ0_isLatin1_aae02_18 : decode cJ0_isLatin1_aae02 18 = .ok (.ireturn, 1) := by decide +kernel
theorem dJ1_canEncode_9a6ad_0 : decode cJ1_canEncode_9a6ad 0 = .ok (.iload_n 0, 1) := by decide +kernel
theorem dJ1_canEncode_9a6ad_1 : decode cJ1_canEncode_9a6ad 1 = .ok (.ifCond .lt 14, 3) := by decide +kernel
theorem dJ1_canEncode_9a6ad_4 : decode cJ1_canEncode_9a6ad 4 = .ok (.iload_n 0, 1) := by decide +kernel
theorem dJ1_canEncode_9a6ad_5 : decode cJ1_canEncode_9a6ad 5 = .ok (.sipush 255, 3) := by decide +kernel
theorem dJ1_canEncode_9a6ad_8 : decode cJ1_canEncode_9a6ad 8 = .ok (.if_icmp .gt 7, 3) := by decide +kernel
theorem dJ1_canEncode_9a6ad_11 : decode cJ1_canEncode_9a6ad 11 = .ok (.iconst 1, 1) := by decide +kernel
theorem dJ1_canEncode_9a6ad_12 : decode cJ1_canEncode_9a6ad 12 = .ok (.goto 4, 3) := by decide +kernel
theorem dJ1_canEncode_9a6ad_15 : decode cJ1_canEncode_9a6ad 15 = .ok (.iconst 0, 1) := by decide +kernel
theorem dJ1_canEncode_9a6ad_16 : decode cJ1_canEncode_9a6ad 16 = .ok (.ireturn, 1) := by decide +kernel
theorem dJ1_indexOf_4cfef_0 : decode cJ1_indexOf_4cfef 0 = .ok (.iload_n 1, 1) := by decide +kernel
theorem dJ1_indexOf_4cfef_1 : decode cJ1_indexOf_4cfef 1 = .ok (.invokestatic 88, 3) := by decide +kernel
theorem dJ1_indexOf_4cfef_4 : decode cJ1_indexOf_4cfef 4 = .ok (.ifCond .ne 5, 3) := by decide +kernel
theorem dJ1_indexOf_4cfef_7 : decode cJ1_indexOf_4cfef 7 = .ok (.iconst (-1), 1) := by decide +kernel
theorem dJ1_indexOf_4cfef_8 : decode cJ1_indexOf_4cfef 8 = .ok (.ireturn, 1) := by decide +kernel
theorem dJ1_indexOf_4cfef_9 : decode cJ1_indexOf_4cfef 9 = .ok (.iload_n 2, 1) := by decide +kernel
theorem dJ1_indexOf_4cfef_10 : decode cJ1_indexOf_4cfef 10 = .ok (.iconst 0, 1) := by decide +kernel
theorem dJ1_indexOf_4cfef_11 : decode cJ1_indexOf_4cfef 11 = .ok (.invokestatic 92, 3) := by decide +kernel
theorem dJ1_indexOf_4cfef_14 : decode cJ1_indexOf_4cfef 14 = .ok (.istore_n 2, 1) := by decide +kernel
theorem dJ1_indexOf_4cfef_15 : decode cJ1_indexOf_4cfef 15 = .ok (.iload_n 3, 1) := by decide +kernel
theorem dJ1_indexOf_4cfef_16 : decode cJ1_indexOf_4cfef 16 = .ok (.aload_n 0, 1) := by decide +kernel
theorem dJ1_indexOf_4cfef_17 : decode cJ1_indexOf_4cfef 17 = .ok (.arraylength, 1) := by decide +kernel
theorem dJ1_indexOf_4cfef_18 : decode cJ1_indexOf_4cfef 18 = .ok (.invokestatic 38, 3) := by decide +kernel
theorem dJ1_indexOf_4cfef_21 : decode cJ1_indexOf_4cfef 21 = .ok (.istore_n 3, 1) := by decide +kernel
theorem dJ1_indexOf_4cfef_22 : decode cJ1_indexOf_4cfef 22 = .ok (.iload_n 2, 1) := by decide +kernel
theorem dJ1_indexOf_4cfef_23 : decode cJ1_indexOf_4cfef 23 = .ok (.iload_n 3, 1) := by decide +kernel
theorem dJ1_indexOf_4cfef_24 : decode cJ1_indexOf_4cfef 24 = .ok (.if_icmp .lt 5, 3) := by decide +kernel
theorem dJ1_indexOf_4cfef_27 : decode cJ1_indexOf_4cfef 27 = .ok (.iconst (-1), 1) := by decide +kernel
theorem dJ1_indexOf_4cfef_28 : decode cJ1_indexOf_4cfef 28 = .ok (.ireturn, 1) := by decide +kernel
theorem dJ1_indexOf_4cfef_29 : decode cJ1_indexOf_4cfef 29 = .ok (.aload_n 0, 1) := by decide +kernel
theorem dJ1_indexOf_4cfef_30 : decode cJ1_indexOf_4cfef 30 = .ok (.iload_n 1, 1) := by decide +kernel
theorem dJ1_indexOf_4cfef_31 : decode cJ1_indexOf_4cfef 31 = .ok (.iload_n 2, 1) := by decide +kernel
theorem dJ1_indexOf_4cfef_32 : decode cJ1_indexOf_4cfef 32 = .ok (.iload_n 3, 1) := by decide +kernel
theorem dJ1_indexOf_4cfef_33 : decode cJ1_indexOf_4cfef 33 = .ok (.invokestatic 95, 3) := by decide +kernel
theorem dJ1_indexOf_4cfef_36 : decode cJ1_indexOf_4cfef 36 = .ok (.ireturn, 1) := by decide +kernel
theorem dJ1_indexOfChar_4cfef_0 : decode cJ1_indexOfChar_4cfef 0 = .ok (.iload_n 1, 1) := by decide +kernel
theorem dJ1_indexOfChar_4cfef_1 : decode cJ1_indexOfChar_4cfef 1 = .ok (.i2b, 1) := by decide +kernel
theorem dJ1_indexOfChar_4cfef_2 : decode cJ1_indexOfChar_4cfef 2 = .ok (.istore 4, 2) := by decide +kernel
theorem dJ1_indexOfChar_4cfef_4 : decode cJ1_indexOfChar_4cfef 4 = .ok (.iload_n 2, 1) := by decide +kernel
theorem dJ1_indexOfChar_4cfef_5 : decode cJ1_indexOfChar_4cfef 5 = .ok (.istore 5, 2) := by decide +kernel
theorem dJ1_indexOfChar_4cfef_7 : decode cJ1_indexOfChar_4cfef 7 = .ok (.iload 5, 2) := by decide +kernel
theorem dJ1_indexOfChar_4cfef_9 : decode cJ1_indexOfChar_4cfef 9 = .ok (.iload_n 3, 1) := by decide +kernel
theorem dJ1_indexOfChar_4cfef_10 : decode cJ1_indexOfChar_4cfef 10 = .ok (.if_icmp .ge 21, 3) := by decide +kernel
theorem dJ1_indexOfChar_4cfef_13 : decode cJ1_indexOfChar_4cfef 13 = .ok (.aload_n 0, 1) := by decide +kernel
theorem dJ1_indexOfChar_4cfef_14 : decode cJ1_indexOfChar_4cfef 14 = .ok (.iload 5, 2) := by decide +kernel
theorem dJ1_indexOfChar_4cfef_16 : decode cJ1_indexOfChar_4cfef 16 = .ok (.baload, 1) := by decide +kernel
theorem dJ1_indexOfChar_4cfef_17 : decode cJ1_indexOfChar_4cfef 17 = .ok (.iload 4, 2) := by decide +kernel
theorem dJ1_indexOfChar_4cfef_19 : decode cJ1_indexOfChar_4cfef 19 = .ok (.if_icmp .ne 6, 3) := by decide +kernel
theorem dJ1_indexOfChar_4cfef_22 : decode cJ1_indexOfChar_4cfef 22 = .ok (.iload 5, 2) := by decide +kernel
theorem dJ1_indexOfChar_4cfef_24 : decode cJ1_indexOfChar_4cfef 24 = .ok (.ireturn, 1) := by decide +kernel
theorem dJ1_indexOfChar_4cfef_25 : decode cJ1_indexOfChar_4cfef 25 = .ok (.iinc 5 1, 3) := by decide +kernel
theorem dJ1_indexOfChar_4cfef_28 : decode cJ1_indexOfChar_4cfef 28 = .ok (.goto (-21), 3) := by decide +kernel
theorem dJ1_indexOfChar_4cfef_31 : decode cJ1_indexOfChar_4cfef 31 = .ok (.iconst (-1), 1) := by decide +kernel
theorem dJ1_indexOfChar_4cfef_32 : decode cJ1_indexOfChar_4cfef 32 = .ok (.ireturn, 1) := by decide +kernel
theorem dL_law_0 : decode cL_law 0 = .ok (.new 7, 3) := by decide +kernel
theorem dL_law_3 : decode cL_law 3 = .ok (.dup, 1) := by decide +kernel
theorem dL_law_4 : decode cL_law 4 = .ok (.invokespecial 9, 3) := by decide +kernel
theorem dL_law_7 : decode cL_law 7 = .ok (.astore_n 1, 1) := by decide +kernel
theorem dL_law_8 : decode cL_law 8 = .ok (.new 10, 3) := by decide +kernel
theorem dL_law_11 : decode cL_law 11 = .ok (.dup, 1) := by decide +kernel
theorem dL_law_12 : decode cL_law 12 = .ok (.invokespecial 12, 3) := by decide +kernel
theorem dL_law_15 : decode cL_law 15 = .ok (.astore_n 2, 1) := by decide +kernel
theorem dL_law_16 : decode cL_law 16 = .ok (.iconst 0, 1) := by decide +kernel
theorem dL_law_17 : decode cL_law 17 = .ok (.istore_n 3, 1) := by decide +kernel
theorem dL_law_18 : decode cL_law 18 = .ok (.iload_n 3, 1) := by decide +kernel
theorem dL_law_19 : decode cL_law 19 = .ok (.aload_n 0, 1) := by decide +kernel
theorem dL_law_20 : decode cL_law 20 = .ok (.arraylength, 1) := by decide +kernel
theorem dL_law_21 : decode cL_law 21 = .ok (.bipush 7, 2) := by decide +kernel
theorem dL_law_23 : decode cL_law 23 = .ok (.isub, 1) := by decide +kernel
theorem dL_law_24 : decode cL_law 24 = .ok (.if_icmp .gt 1160, 3) := by decide +kernel
theorem dL_law_27 : decode cL_law 27 = .ok (.aload_n 0, 1) := by decide +kernel
theorem dL_law_28 : decode cL_law 28 = .ok (.iload_n 3, 1) := by decide +kernel
theorem dL_law_29 : decode cL_law 29 = .ok (.iaload, 1) := by decide +kernel
theorem dL_law_30 : decode cL_law 30 = .ok (.bipush 31, 2) := by decide +kernel
theorem dL_law_32 : decode cL_law 32 = .ok (.iand, 1) := by decide +kernel
theorem dL_law_33 : decode cL_law 33 = .ok (.tableswitch 1145 0 25 #[119, 194, 217, 250, 293, 336, 379, 403, 436, 470, 503, 536, 569, 593, 636, 669, 744, 778, 841, 894, 947, 960, 973, 996, 1039, 1082], 119) := by decide +kernel
theorem dL_law_152 : decode cL_law 152 = .ok (.aload_n 1, 1) := by decide +kernel
theorem dL_law_153 : decode cL_law 153 = .ok (.aload_n 0, 1) := by decide +kernel
theorem dL_law_154 : decode cL_law 154 = .ok (.iload_n 3, 1) := by decide +kernel
theorem dL_law_155 : decode cL_law 155 = .ok (.iconst 1, 1) := by decide +kernel
theorem dL_law_156 : decode cL_law 156 = .ok (.iadd, 1) := by decide +kernel
theorem dL_law_157 : decode cL_law 157 = .ok (.iaload, 1) := by decide +kernel
theorem dL_law_158 : decode cL_law 158 = .ok (.aload_n 0, 1) := by decide +kernel
theorem dL_law_159 : decode cL_law 159 = .ok (.iload_n 3, 1) := by decide +kernel
theorem dL_law_160 : decode cL_law 160 = .ok (.iconst 2, 1) := by decide +kernel
theorem dL_law_161 : decode cL_law 161 = .ok (.iadd, 1) := by decide +kernel
theorem dL_law_162 : decode cL_law 162 = .ok (.iaload, 1) := by decide +kernel
theorem dL_law_163 : decode cL_law 163 = .ok (.aload_n 0, 1) := by decide +kernel
theorem dL_law_164 : decode cL_law 164 = .ok (.iload_n 3, 1) := by decide +kernel
theorem dL_law_165 : decode cL_law 165 = .ok (.iconst 3, 1) := by decide +kernel
theorem dL_law_166 : decode cL_law 166 = .ok (.iadd, 1) := by decide +kernel
theorem dL_law_167 : decode cL_law 167 = .ok (.iaload, 1) := by decide +kernel
theorem dL_law_168 : decode cL_law 168 = .ok (.aload_n 0, 1) := by decide +kernel
theorem dL_law_169 : decode cL_law 169 = .ok (.iload_n 3, 1) := by decide +kernel
theorem dL_law_170 : decode cL_law 170 = .ok (.iconst 4, 1) := by decide +kernel
theorem dL_law_171 : decode cL_law 171 = .ok (.iadd, 1) := by decide +kernel
theorem dL_law_172 : decode cL_law 172 = .ok (.iaload, 1) := by decide +kernel
theorem dL_law_173 : decode cL_law 173 = .ok (.aload_n 0, 1) := by decide +kernel
theorem dL_law_174 : decode cL_law 174 = .ok (.iload_n 3, 1) := by decide +kernel
theorem dL_law_175 : decode cL_law 175 = .ok (.iconst 5, 1) := by decide +kernel
theorem dL_law_176 : decode cL_law 176 = .ok (.iadd, 1) := by decide +kernel
theorem dL_law_177 : decode cL_law 177 = .ok (.iaload, 1) := by decide +kernel
theorem dL_law_178 : decode cL_law 178 = .ok (.aload_n 0, 1) := by decide +kernel
theorem dL_law_179 : decode cL_law 179 = .ok (.iload_n 3, 1) := by decide +kernel
theorem dL_law_180 : decode cL_law 180 = .ok (.bipush 6, 2) := by decide +kernel
theorem dL_law_182 : decode cL_law 182 = .ok (.iadd, 1) := by decide +kernel
theorem dL_law_183 : decode cL_law 183 = .ok (.iaload, 1) := by decide +kernel
theorem dL_law_184 : decode cL_law 184 = .ok (.invokevirtual 13, 3) := by decide +kernel
theorem dL_law_187 : decode cL_law 187 = .ok (.aload_n 2, 1) := by decide +kernel
theorem dL_law_188 : decode cL_law 188 = .ok (.aload_n 0, 1) := by decide +kernel
theorem dL_law_189 : decode cL_law 189 = .ok (.iload_n 3, 1) := by decide +kernel
theorem dL_law_190 : decode cL_law 190 = .ok (.iconst 1, 1) := by decide +kernel
theorem dL_law_191 : decode cL_law 191 = .ok (.iadd, 1) := by decide +kernel
theorem dL_law_192 : decode cL_law 192 = .ok (.iaload, 1) := by decide +kernel
theorem dL_law_193 : decode cL_law 193 = .ok (.aload_n 0, 1) := by decide +kernel
theorem dL_law_194 : decode cL_law 194 = .ok (.iload_n 3, 1) := by decide +kernel
theorem dL_law_195 : decode cL_law 195 = .ok (.iconst 2, 1) := by decide +kernel
theorem dL_law_196 : decode cL_law 196 = .ok (.iadd, 1) := by decide +kernel
theorem dL_law_197 : decode cL_law 197 = .ok (.iaload, 1) := by decide +kernel
theorem dL_law_198 : decode cL_law 198 = .ok (.aload_n 0, 1) := by decide +kernel
theorem dL_law_199 : decode cL_law 199 = .ok (.iload_n 3, 1) := by decide +kernel
theorem dL_law_200 : decode cL_law 200 = .ok (.iconst 3, 1) := by decide +kernel
theorem dL_law_201 : decode cL_law 201 = .ok (.iadd, 1) := by decide +kernel
theorem dL_law_202 : decode cL_law 202 = .ok (.iaload, 1) := by decide +kernel
theorem dL_law_203 : decode cL_law 203 = .ok (.aload_n 0, 1) := by decide +kernel
theorem dL_law_204 : decode cL_law 204 = .ok (.iload_n 3, 1) := by decide +kernel
theorem dL_law_205 : decode cL_law 205 = .ok (.iconst 4, 1) := by decide +kernel
theorem dL_law_206 : decode cL_law 206 = .ok (.iadd, 1) := by decide +kernel
theorem dL_law_207 : decode cL_law 207 = .ok (.iaload, 1) := by decide +kernel
theorem dL_law_208 : decode cL_law 208 = .ok (.aload_n 0, 1) := by decide +kernel
theorem dL_law_209 : decode cL_law 209 = .ok (.iload_n 3, 1) := by decide +kernel
theorem dL_law_210 : decode cL_law 210 = .ok (.iconst 5, 1) := by decide +kernel
theorem dL_law_211 : decode cL_law 211 = .ok (.iadd, 1) := by decide +kernel
theorem dL_law_212 : decode cL_law 212 = .ok (.iaload, 1) := by decide +kernel
theorem dL_law_213 : decode cL_law 213 = .ok (.aload_n 0, 1) := by decide +kernel
theorem dL_law_214 : decode cL_law 214 = .ok (.iload_n 3, 1) := by decide +kernel
theorem dL_law_215 : decode cL_law 215 = .ok (.bipush 6, 2) := by decide +kernel
theorem dL_law_217 : decode cL_law 217 = .ok (.iadd, 1) := by decide +kernel
theorem dL_law_218 : decode cL_law 218 = .ok (.iaload, 1) := by decide +kernel
theorem dL_law_219 : decode cL_law 219 = .ok (.invokevirtual 17, 3) := by decide +kernel
theorem dL_law_222 : decode cL_law 222 = .ok (.if_icmp .eq 956, 3) := by decide +kernel
theorem dL_law_225 : decode cL_law 225 = .ok (.iconst 0, 1) := by decide +kernel
theorem dL_law_226 : decode cL_law 226 = .ok (.ireturn, 1) := by decide +kernel
theorem dL_law_227 : decode cL_law 227 = .ok (.aload_n 1, 1) := by decide +kernel
theorem dL_law_228 : decode cL_law 228 = .ok (.aload_n 0, 1) := by decide +kernel
theorem dL_law_229 : decode cL_law 229 = .ok (.iload_n 3, 1) := by decide +kernel
theorem dL_law_230 : decode cL_law 230 = .ok (.iconst 1, 1) := by decide +kernel
theorem dL_law_231 : decode cL_law 231 = .ok (.iadd, 1) := by decide +kernel
theorem dL_law_232 : decode cL_law 232 = .ok (.iaload, 1) := by decide +kernel
theorem dL_law_233 : decode cL_law 233 = .ok (.invokevirtual 18, 3) := by decide +kernel
theorem dL_law_236 : decode cL_law 236 = .ok (.aload_n 2, 1) := by decide +kernel
theorem dL_law_237 : decode cL_law 237 = .ok (.aload_n 0, 1) := by decide +kernel
theorem dL_law_238 : decode cL_law 238 = .ok (.iload_n 3, 1) := by decide +kernel
theorem dL_law_239 : decode cL_law 239 = .ok (.iconst 1, 1) := by decide +kernel
theorem dL_law_240 : decode cL_law 240 = .ok (.iadd, 1) := by decide +kernel
theorem dL_law_241 : decode cL_law 241 = .ok (.iaload, 1) := by decide +kernel
theorem dL_law_242 : decode cL_law 242 = .ok (.invokevirtual 22, 3) := by decide +kernel
theorem dL_law_245 : decode cL_law 245 = .ok (.if_icmp .eq 933, 3) := by decide +kernel
theorem dL_law_248 : decode cL_law 248 = .ok (.iconst 0, 1) := by decide +kernel
theorem dL_law_249 : decode cL_law 249 = .ok (.ireturn, 1) := by decide +kernel
theorem dL_law_250 : decode cL_law 250 = .ok (.aload_n 1, 1) := by decide +kernel
theorem dL_law_251 : decode cL_law 251 = .ok (.aload_n 0, 1) := by decide +kernel
theorem dL_law_252 : decode cL_law 252 = .ok (.iload_n 3, 1) := by decide +kernel
theorem dL_law_253 : decode cL_law 253 = .ok (.iconst 1, 1) := by decide +kernel
theorem dL_law_254 : decode cL_law 254 = .ok (.iadd, 1) := by decide +kernel
theorem dL_law_255 : decode cL_law 255 = .ok (.iaload, 1) := by decide +kernel
theorem dL_law_256 : decode cL_law 256 = .ok (.aload_n 0, 1) := by decide +kernel
theorem dL_law_257 : decode cL_law 257 = .ok (.iload_n 3, 1) := by decide +kernel
theorem dL_law_258 : decode cL_law 258 = .ok (.iconst 2, 1) := by decide +kernel
theorem dL_law_259 : decode cL_law 259 = .ok (.iadd, 1) := by decide +kernel
theorem dL_law_260 : decode cL_law 260 = .ok (.iaload, 1) := by decide +kernel
theorem dL_law_261 : decode cL_law 261 = .ok (.invokevirtual 23, 3) := by decide +kernel
theorem dL_law_264 : decode cL_law 264 = .ok (.aload_n 2, 1) := by decide +kernel
theorem dL_law_265 : decode cL_law 265 = .ok (.aload_n 0, 1) := by decide +kernel
theorem dL_law_266 : decode cL_law 266 = .ok (.iload_n 3, 1) := by decide +kernel
theorem dL_law_267 : decode cL_law 267 = .ok (.iconst 1, 1) := by decide +kernel
theorem dL_law_268 : decode cL_law 268 = .ok (.iadd, 1) := by decide +kernel
theorem dL_law_269 : decode cL_law 269 = .ok (.iaload, 1) := by decide +kernel
theorem dL_law_270 : decode cL_law 270 = .ok (.aload_n 0, 1) := by decide +kernel
theorem dL_law_271 : decode cL_law 271 = .ok (.iload_n 3, 1) := by decide +kernel
theorem dL_law_272 : decode cL_law 272 = .ok (.iconst 2, 1) := by decide +kernel
theorem dL_law_273 : decode cL_law 273 = .ok (.iadd, 1) := by decide +kernel
theorem dL_law_274 : decode cL_law 274 = .ok (.iaload, 1) := by decide +kernel
theorem dL_law_275 : decode cL_law 275 = .ok (.invokevirtual 27, 3) := by decide +kernel
theorem dL_law_278 : decode cL_law 278 = .ok (.if_icmp .eq 900, 3) := by decide +kernel
theorem dL_law_281 : decode cL_law 281 = .ok (.iconst 0, 1) := by decide +kernel
theorem dL_law_282 : decode cL_law 282 = .ok (.ireturn, 1) := by decide +kernel
theorem dL_law_283 : decode cL_law 283 = .ok (.aload_n 1, 1) := by decide +kernel
theorem dL_law_284 : decode cL_law 284 = .ok (.aload_n 0, 1) := by decide +kernel
theorem dL_law_285 : decode cL_law 285 = .ok (.iload_n 3, 1) := by decide +kernel
theorem dL_law_286 : decode cL_law 286 = .ok (.iconst 1, 1) := by decide +kernel
theorem dL_law_287 : decode cL_law 287 = .ok (.iadd, 1) := by decide +kernel
theorem dL_law_288 : decode cL_law 288 = .ok (.iaload, 1) := by decide +kernel
theorem dL_law_289 : decode cL_law 289 = .ok (.aload_n 0, 1) := by decide +kernel
theorem dL_law_290 : decode cL_law 290 = .ok (.iload_n 3, 1) := by decide +kernel
theorem dL_law_291 : decode cL_law 291 = .ok (.iconst 2, 1) := by decide +kernel
theorem dL_law_292 : decode cL_law 292 = .ok (.iadd, 1) := by decide +kernel
theorem dL_law_293 : decode cL_law 293 = .ok (.iaload, 1) := by decide +kernel
theorem dL_law_294 : decode cL_law 294 = .ok (.aload_n 0, 1) := by decide +kernel
theorem dL_law_295 : decode cL_law 295 = .ok (.iload_n 3, 1) := by decide +kernel
theorem dL_law_296 : decode cL_law 296 = .ok (.iconst 3, 1) := by decide +kernel
theorem dL_law_297 : decode cL_law 297 = .ok (.iadd, 1) := by decide +kernel
theorem dL_law_298 : decode cL_law 298 = .ok (.iaload, 1) := by decide +kernel
theorem dL_law_299 : decode cL_law 299 = .ok (.invokevirtual 28, 3) := by decide +kernel
theorem dL_law_302 : decode cL_law 302 = .ok (.aload_n 2, 1) := by decide +kernel
theorem dL_law_303 : decode cL_law 303 = .ok (.aload_n 0, 1) := by decide +kernel
theorem dL_law_304 : decode cL_law 304 = .ok (.iload_n 3, 1) := by decide +kernel
theorem dL_law_305 : decode cL_law 305 = .ok (.iconst 1, 1) := by decide +kernel
theorem dL_law_306 : decode cL_law 306 = .ok (.iadd, 1) := by decide +kernel
theorem dL_law_307 : decode cL_law 307 = .ok (.iaload, 1) := by decide +kernel
theorem dL_law_308 : decode cL_law 308 = .ok (.aload_n 0, 1) := by decide +kernel
theorem dL_law_309 : decode cL_law 309 = .ok (.iload_n 3, 1) := by decide +kernel
theorem dL_law_310 : decode cL_law 310 = .ok (.iconst 2, 1) := by decide +kernel
theorem dL_law_311 : decode cL_law 311 = .ok (.iadd, 1) := by decide +kernel
theorem dL_law_312 : decode cL_law 312 = .ok (.iaload, 1) := by decide +kernel
theorem dL_law_313 : decode cL_law 313 = .ok (.aload_n 0, 1) := by decide +kernel
theorem dL_law_314 : decode cL_law 314 = .ok (.iload_n 3, 1) := by decide +kernel
theorem dL_law_315 : decode cL_law 315 = .ok (.iconst 3, 1) := by decide +kernel
theorem dL_law_316 : decode cL_law 316 = .ok (.iadd, 1) := by decide +kernel
theorem dL_law_317 : decode cL_law 317 = .ok (.iaload, 1) := by decide +kernel
theorem dL_law_318 : decode cL_law 318 = .ok (.invokevirtual 32, 3) := by decide +kernel
theorem dL_law_321 : decode cL_law 321 = .ok (.if_icmp .eq 857, 3) := by decide +kernel
theorem dL_law_324 : decode cL_law 324 = .ok (.iconst 0, 1) := by decide +kernel
theorem dL_law_325 : decode cL_law 325 = .ok (.ireturn, 1) := by decide +kernel
theorem dL_law_326 : decode cL_law 326 = .ok (.aload_n 1, 1) := by decide +kernel
theorem dL_law_327 : decode cL_law 327 = .ok (.aload_n 0, 1) := by decide +kernel
theorem dL_law_328 : decode cL_law 328 = .ok (.iload_n 3, 1) := by decide +kernel
theorem dL_law_329 : decode cL_law 329 = .ok (.iconst 1, 1) := by decide +kernel
theorem dL_law_330 : decode cL_law 330 = .ok (.iadd, 1) := by decide +kernel
theorem dL_law_331 : decode cL_law 331 = .ok (.iaload, 1) := by decide +kernel
theorem dL_law_332 : decode cL_law 332 = .ok (.aload_n 0, 1) := by decide +kernel
theorem dL_law_333 : decode cL_law 333 = .ok (.iload_n 3, 1) := by decide +kernel
theorem dL_law_334 : decode cL_law 334 = .ok (.iconst 2, 1) := by decide +kernel
theorem dL_law_335 : decode cL_law 335 = .ok (.iadd, 1) := by decide +kernel
theorem dL_law_336 : decode cL_law 336 = .ok (.iaload, 1) := by decide +kernel
theorem dL_law_337 : decode cL_law 337 = .ok (.aload_n 0, 1) := by decide +kernel
theorem dL_law_338 : decode cL_law 338 = .ok (.iload_n 3, 1) := by decide +kernel
theorem dL_law_339 : decode cL_law 339 = .ok (.iconst 3, 1) := by decide +kernel
theorem dL_law_340 : decode cL_law 340 = .ok (.iadd, 1) := by decide +kernel
theorem dL_law_341 : decode cL_law 341 = .ok (.iaload, 1) := by decide +kernel
theorem dL_law_342 : decode cL_law 342 = .ok (.invokevirtual 33, 3) := by decide +kernel
theorem dL_law_345 : decode cL_law 345 = .ok (.aload_n 2, 1) := by decide +kernel
theorem dL_law_346 : decode cL_law 346 = .ok (.aload_n 0, 1) := by decide +kernel
theorem dL_law_347 : decode cL_law 347 = .ok (.iload_n 3, 1) := by decide +kernel
theorem dL_law_348 : decode cL_law 348 = .ok (.iconst 1, 1) := by decide +kernel
theorem dL_law_349 : decode cL_law 349 = .ok (.iadd, 1) := by decide +kernel
theorem dL_law_350 : decode cL_law 350 = .ok (.iaload, 1) := by decide +kernel
theorem dL_law_351 : decode cL_law 351 = .ok (.aload_n 0, 1) := by decide +kernel
theorem dL_law_352 : decode cL_law 352 = .ok (.iload_n 3, 1) := by decide +kernel
theorem dL_law_353 : decode cL_law 353 = .ok (.iconst 2, 1) := by decide +kernel
theorem dL_law_354 : decode cL_law 354 = .ok (.iadd, 1) := by decide +kernel
theorem dL_law_355 : decode cL_law 355 = .ok (.iaload, 1) := by decide +kernel
theorem dL_law_356 : decode cL_law 356 = .ok (.aload_n 0, 1) := by decide +kernel
theorem dL_law_357 : decode cL_law 357 = .ok (.iload_n 3, 1) := by decide +kernel
theorem dL_law_358 : decode cL_law 358 = .ok (.iconst 3, 1) := by decide +kernel
theorem dL_law_359 : decode cL_law 359 = .ok (.iadd, 1) := by decide +kernel
theorem dL_law_360 : decode cL_law 360 = .ok (.iaload, 1) := by decide +kernel
theorem dL_law_361 : decode cL_law 361 = .ok (.invokevirtual 36, 3) := by decide +kernel
theorem dL_law_364 : decode cL_law 364 = .ok (.if_icmp .eq 814, 3) := by decide +kernel
theorem dL_law_367 : decode cL_law 367 = .ok (.iconst 0, 1) := by decide +kernel
theorem dL_law_368 : decode cL_law 368 = .ok (.ireturn, 1) := by decide +kernel
theorem dL_law_369 : decode cL_law 369 = .ok (.aload_n 1, 1) := by decide +kernel
theorem dL_law_370 : decode cL_law 370 = .ok (.aload_n 0, 1) := by decide +kernel
theorem dL_law_371 : decode cL_law 371 = .ok (.iload_n 3, 1) := by decide +kernel
theorem dL_law_372 : decode cL_law 372 = .ok (.iconst 1, 1) := by decide +kernel
theorem dL_law_373 : decode cL_law 373 = .ok (.iadd, 1) := by decide +kernel
theorem dL_law_374 : decode cL_law 374 = .ok (.iaload, 1) := by decide +kernel
theorem dL_law_375 : decode cL_law 375 = .ok (.aload_n 0, 1) := by decide +kernel
theorem dL_law_376 : decode cL_law 376 = .ok (.iload_n 3, 1) := by decide +kernel
theorem dL_law_377 : decode cL_law 377 = .ok (.iconst 2, 1) := by decide +kernel
theorem dL_law_378 : decode cL_law 378 = .ok (.iadd, 1) := by decide +kernel
theorem dL_law_379 : decode cL_law 379 = .ok (.iaload, 1) := by decide +kernel
theorem dL_law_380 : decode cL_law 380 = .ok (.aload_n 0, 1) := by decide +kernel
theorem dL_law_381 : decode cL_law 381 = .ok (.iload_n 3, 1) := by decide +kernel
theorem dL_law_382 : decode cL_law 382 = .ok (.iconst 3, 1) := by decide +kernel
theorem dL_law_383 : decode cL_law 383 = .ok (.iadd, 1) := by decide +kernel
theorem dL_law_384 : decode cL_law 384 = .ok (.iaload, 1) := by decide +kernel
theorem dL_law_385 : decode cL_law 385 = .ok (.invokevirtual 37, 3) := by decide +kernel
theorem dL_law_388 : decode cL_law 388 = .ok (.aload_n 2, 1) := by decide +kernel
theorem dL_law_389 : decode cL_law 389 = .ok (.aload_n 0, 1) := by decide +kernel
theorem dL_law_390 : decode cL_law 390 = .ok (.iload_n 3, 1) := by decide +kernel
theorem dL_law_391 : decode cL_law 391 = .ok (.iconst 1, 1) := by decide +kernel
theorem dL_law_392 : decode cL_law 392 = .ok (.iadd, 1) := by decide +kernel
theorem dL_law_393 : decode cL_law 393 = .ok (.iaload, 1) := by decide +kernel
theorem dL_law_394 : decode cL_law 394 = .ok (.aload_n 0, 1) := by decide +kernel
theorem dL_law_395 : decode cL_law 395 = .ok (.iload_n 3, 1) := by decide +kernel
theorem dL_law_396 : decode cL_law 396 = .ok (.iconst 2, 1) := by decide +kernel
theorem dL_law_397 : decode cL_law 397 = .ok (.iadd, 1) := by decide +kernel
theorem dL_law_398 : decode cL_law 398 = .ok (.iaload, 1) := by decide +kernel
theorem dL_law_399 : decode cL_law 399 = .ok (.aload_n 0, 1) := by decide +kernel
theorem dL_law_400 : decode cL_law 400 = .ok (.iload_n 3, 1) := by decide +kernel
theorem dL_law_401 : decode cL_law 401 = .ok (.iconst 3, 1) := by decide +kernel
theorem dL_law_402 : decode cL_law 402 = .ok (.iadd, 1) := by decide +kernel
theorem dL_law_403 : decode cL_law 403 = .ok (.iaload, 1) := by decide +kernel
theorem dL_law_404 : decode cL_law 404 = .ok (.invokevirtual 40, 3) := by decide +kernel
theorem dL_law_407 : decode cL_law 407 = .ok (.if_icmp .eq 771, 3) := by decide +kernel
theorem dL_law_410 : decode cL_law 410 = .ok (.iconst 0, 1) := by decide +kernel
theorem dL_law_411 : decode cL_law 411 = .ok (.ireturn, 1) := by decide +kernel
theorem dL_law_412 : decode cL_law 412 = .ok (.aload_n 1, 1) := by decide +kernel
theorem dL_law_413 : decode cL_law 413 = .ok (.aload_n 0, 1) := by decide +kernel
theorem dL_law_414 : decode cL_law 414 = .ok (.iload_n 3, 1) := by decide +kernel
theorem dL_law_415 : decode cL_law 415 = .ok (.iconst 1, 1) := by decide +kernel
theorem dL_law_416 : decode cL_law 416 = .ok (.iadd, 1) := by decide +kernel
theorem dL_law_417 : decode cL_law 417 = .ok (.iaload, 1) := by decide +kernel
theorem dL_law_418 : decode cL_law 418 = .ok (.invokevirtual 41, 3) := by decide +kernel
theorem dL_law_421 : decode cL_law 421 = .ok (.aload_n 2, 1) := by decide +kernel
theorem dL_law_422 : decode cL_law 422 = .ok (.aload_n 0, 1) := by decide +kernel
theorem dL_law_423 : decode cL_law 423 = .ok (.iload_n 3, 1) := by decide +kernel
theorem dL_law_424 : decode cL_law 424 = .ok (.iconst 1, 1) := by decide +kernel
theorem dL_law_425 : decode cL_law 425 = .ok (.iadd, 1) := by decide +kernel
theorem dL_law_426 : decode cL_law 426 = .ok (.iaload, 1) := by decide +kernel
theorem dL_law_427 : decode cL_law 427 = .ok (.invokevirtual 45, 3) := by decide +kernel
theorem dL_law_430 : decode cL_law 430 = .ok (.lcmp, 1) := by decide +kernel
theorem dL_law_431 : decode cL_law 431 = .ok (.ifCond .eq 747, 3) := by decide +kernel
theorem dL_law_434 : decode cL_law 434 = .ok (.iconst 0, 1) := by decide +kernel
theorem dL_law_435 : decode cL_law 435 = .ok (.ireturn, 1) := by decide +kernel
theorem dL_law_436 : decode cL_law 436 = .ok (.aload_n 1, 1) := by decide +kernel
theorem dL_law_437 : decode cL_law 437 = .ok (.aload_n 0, 1) := by decide +kernel
theorem dL_law_438 : decode cL_law 438 = .ok (.iload_n 3, 1) := by decide +kernel
theorem dL_law_439 : decode cL_law 439 = .ok (.iconst 1, 1) := by decide +kernel
theorem dL_law_440 : decode cL_law 440 = .ok (.iadd, 1) := by decide +kernel
theorem dL_law_441 : decode cL_law 441 = .ok (.iaload, 1) := by decide +kernel
theorem dL_law_442 : decode cL_law 442 = .ok (.aload_n 0, 1) := by decide +kernel
theorem dL_law_443 : decode cL_law 443 = .ok (.iload_n 3, 1) := by decide +kernel
theorem dL_law_444 : decode cL_law 444 = .ok (.iconst 2, 1) := by decide +kernel
theorem dL_law_445 : decode cL_law 445 = .ok (.iadd, 1) := by decide +kernel
theorem dL_law_446 : decode cL_law 446 = .ok (.iaload, 1) := by decide +kernel
theorem dL_law_447 : decode cL_law 447 = .ok (.invokevirtual 46, 3) := by decide +kernel
theorem dL_law_450 : decode cL_law 450 = .ok (.aload_n 2, 1) := by decide +kernel
theorem dL_law_451 : decode cL_law 451 = .ok (.aload_n 0, 1) := by decide +kernel
theorem dL_law_452 : decode cL_law 452 = .ok (.iload_n 3, 1) := by decide +kernel
theorem dL_law_453 : decode cL_law 453 = .ok (.iconst 1, 1) := by decide +kernel
theorem dL_law_454 : decode cL_law 454 = .ok (.iadd, 1) := by decide +kernel
theorem dL_law_455 : decode cL_law 455 = .ok (.iaload, 1) := by decide +kernel
theorem dL_law_456 : decode cL_law 456 = .ok (.aload_n 0, 1) := by decide +kernel
theorem dL_law_457 : decode cL_law 457 = .ok (.iload_n 3, 1) := by decide +kernel
theorem dL_law_458 : decode cL_law 458 = .ok (.iconst 2, 1) := by decide +kernel
theorem dL_law_459 : decode cL_law 459 = .ok (.iadd, 1) := by decide +kernel
theorem dL_law_460 : decode cL_law 460 = .ok (.iaload, 1) := by decide +kernel
theorem dL_law_461 : decode cL_law 461 = .ok (.invokevirtual 49, 3) := by decide +kernel
theorem dL_law_464 : decode cL_law 464 = .ok (.if_icmp .eq 714, 3) := by decide +kernel
theorem dL_law_467 : decode cL_law 467 = .ok (.iconst 0, 1) := by decide +kernel
theorem dL_law_468 : decode cL_law 468 = .ok (.ireturn, 1) := by decide +kernel
theorem dL_law_469 : decode cL_law 469 = .ok (.aload_n 1, 1) := by decide +kernel
theorem dL_law_470 : decode cL_law 470 = .ok (.aload_n 0, 1) := by decide +kernel
theorem dL_law_471 : decode cL_law 471 = .ok (.iload_n 3, 1) := by decide +kernel
theorem dL_law_472 : decode cL_law 472 = .ok (.iconst 1, 1) := by decide +kernel
theorem dL_law_473 : decode cL_law 473 = .ok (.iadd, 1) := by decide +kernel
theorem dL_law_474 : decode cL_law 474 = .ok (.iaload, 1) := by decide +kernel
theorem dL_law_475 : decode cL_law 475 = .ok (.aload_n 0, 1) := by decide +kernel
theorem dL_law_476 : decode cL_law 476 = .ok (.iload_n 3, 1) := by decide +kernel
theorem dL_law_477 : decode cL_law 477 = .ok (.iconst 2, 1) := by decide +kernel
theorem dL_law_478 : decode cL_law 478 = .ok (.iadd, 1) := by decide +kernel
theorem dL_law_479 : decode cL_law 479 = .ok (.iaload, 1) := by decide +kernel
theorem dL_law_480 : decode cL_law 480 = .ok (.invokevirtual 50, 3) := by decide +kernel
theorem dL_law_483 : decode cL_law 483 = .ok (.aload_n 2, 1) := by decide +kernel
theorem dL_law_484 : decode cL_law 484 = .ok (.aload_n 0, 1) := by decide +kernel
theorem dL_law_485 : decode cL_law 485 = .ok (.iload_n 3, 1) := by decide +kernel
theorem dL_law_486 : decode cL_law 486 = .ok (.iconst 1, 1) := by decide +kernel
theorem dL_law_487 : decode cL_law 487 = .ok (.iadd, 1) := by decide +kernel
theorem dL_law_488 : decode cL_law 488 = .ok (.iaload, 1) := by decide +kernel
theorem dL_law_489 : decode cL_law 489 = .ok (.aload_n 0, 1) := by decide +kernel
theorem dL_law_490 : decode cL_law 490 = .ok (.iload_n 3, 1) := by decide +kernel
theorem dL_law_491 : decode cL_law 491 = .ok (.iconst 2, 1) := by decide +kernel
theorem dL_law_492 : decode cL_law 492 = .ok (.iadd, 1) := by decide +kernel
theorem dL_law_493 : decode cL_law 493 = .ok (.iaload, 1) := by decide +kernel
theorem dL_law_494 : decode cL_law 494 = .ok (.invokevirtual 54, 3) := by decide +kernel
theorem dL_law_497 : decode cL_law 497 = .ok (.lcmp, 1) := by decide +kernel
theorem dL_law_498 : decode cL_law 498 = .ok (.ifCond .eq 680, 3) := by decide +kernel
theorem dL_law_501 : decode cL_law 501 = .ok (.iconst 0, 1) := by decide +kernel
theorem dL_law_502 : decode cL_law 502 = .ok (.ireturn, 1) := by decide +kernel
theorem dL_law_503 : decode cL_law 503 = .ok (.aload_n 1, 1) := by decide +kernel
theorem dL_law_504 : decode cL_law 504 = .ok (.aload_n 0, 1) := by decide +kernel
theorem dL_law_505 : decode cL_law 505 = .ok (.iload_n 3, 1) := by decide +kernel
theorem dL_law_506 : decode cL_law 506 = .ok (.iconst 1, 1) := by decide +kernel
theorem dL_law_507 : decode cL_law 507 = .ok (.iadd, 1) := by decide +kernel
theorem dL_law_508 : decode cL_law 508 = .ok (.iaload, 1) := by decide +kernel
theorem dL_law_509 : decode cL_law 509 = .ok (.aload_n 0, 1) := by decide +kernel
theorem dL_law_510 : decode cL_law 510 = .ok (.iload_n 3, 1) := by decide +kernel
theorem dL_law_511 : decode cL_law 511 = .ok (.iconst 2, 1) := by decide +kernel
theorem dL_law_512 : decode cL_law 512 = .ok (.iadd, 1) := by decide +kernel
theorem dL_law_513 : decode cL_law 513 = .ok (.iaload, 1) := by decide +kernel
theorem dL_law_514 : decode cL_law 514 = .ok (.invokevirtual 55, 3) := by decide +kernel
theorem dL_law_517 : decode cL_law 517 = .ok (.aload_n 2, 1) := by decide +kernel
theorem dL_law_518 : decode cL_law 518 = .ok (.aload_n 0, 1) := by decide +kernel
theorem dL_law_519 : decode cL_law 519 = .ok (.iload_n 3, 1) := by decide +kernel
theorem dL_law_520 : decode cL_law 520 = .ok (.iconst 1, 1) := by decide +kernel
theorem dL_law_521 : decode cL_law 521 = .ok (.iadd, 1) := by decide +kernel
theorem dL_law_522 : decode cL_law 522 = .ok (.iaload, 1) := by decide +kernel
theorem dL_law_523 : decode cL_law 523 = .ok (.aload_n 0, 1) := by decide +kernel
theorem dL_law_524 : decode cL_law 524 = .ok (.iload_n 3, 1) := by decide +kernel
theorem dL_law_525 : decode cL_law 525 = .ok (.iconst 2, 1) := by decide +kernel
theorem dL_law_526 : decode cL_law 526 = .ok (.iadd, 1) := by decide +kernel
theorem dL_law_527 : decode cL_law 527 = .ok (.iaload, 1) := by decide +kernel
theorem dL_law_528 : decode cL_law 528 = .ok (.invokevirtual 58, 3) := by decide +kernel
theorem dL_law_531 : decode cL_law 531 = .ok (.if_icmp .eq 647, 3) := by decide +kernel
theorem dL_law_534 : decode cL_law 534 = .ok (.iconst 0, 1) := by decide +kernel
theorem dL_law_535 : decode cL_law 535 = .ok (.ireturn, 1) := by decide +kernel
theorem dL_law_536 : decode cL_law 536 = .ok (.aload_n 1, 1) := by decide +kernel
theorem dL_law_537 : decode cL_law 537 = .ok (.aload_n 0, 1) := by decide +kernel
theorem dL_law_538 : decode cL_law 538 = .ok (.iload_n 3, 1) := by decide +kernel
theorem dL_law_539 : decode cL_law 539 = .ok (.iconst 1, 1) := by decide +kernel
theorem dL_law_540 : decode cL_law 540 = .ok (.iadd, 1) := by decide +kernel
theorem dL_law_541 : decode cL_law 541 = .ok (.iaload, 1) := by decide +kernel
theorem dL_law_542 : decode cL_law 542 = .ok (.aload_n 0, 1) := by decide +kernel
theorem dL_law_543 : decode cL_law 543 = .ok (.iload_n 3, 1) := by decide +kernel
theorem dL_law_544 : decode cL_law 544 = .ok (.iconst 2, 1) := by decide +kernel
theorem dL_law_545 : decode cL_law 545 = .ok (.iadd, 1) := by decide +kernel
theorem dL_law_546 : decode cL_law 546 = .ok (.iaload, 1) := by decide +kernel
theorem dL_law_547 : decode cL_law 547 = .ok (.invokevirtual 59, 3) := by decide +kernel
theorem dL_law_550 : decode cL_law 550 = .ok (.aload_n 2, 1) := by decide +kernel
theorem dL_law_551 : decode cL_law 551 = .ok (.aload_n 0, 1) := by decide +kernel
theorem dL_law_552 : decode cL_law 552 = .ok (.iload_n 3, 1) := by decide +kernel
theorem dL_law_553 : decode cL_law 553 = .ok (.iconst 1, 1) := by decide +kernel
theorem dL_law_554 : decode cL_law 554 = .ok (.iadd, 1) := by decide +kernel
theorem dL_law_555 : decode cL_law 555 = .ok (.iaload, 1) := by decide +kernel
theorem dL_law_556 : decode cL_law 556 = .ok (.aload_n 0, 1) := by decide +kernel
theorem dL_law_557 : decode cL_law 557 = .ok (.iload_n 3, 1) := by decide +kernel
theorem dL_law_558 : decode cL_law 558 = .ok (.iconst 2, 1) := by decide +kernel
theorem dL_law_559 : decode cL_law 559 = .ok (.iadd, 1) := by decide +kernel
theorem dL_law_560 : decode cL_law 560 = .ok (.iaload, 1) := by decide +kernel
theorem dL_law_561 : decode cL_law 561 = .ok (.invokevirtual 62, 3) := by decide +kernel
theorem dL_law_564 : decode cL_law 564 = .ok (.if_icmp .eq 614, 3) := by decide +kernel
theorem dL_law_567 : decode cL_law 567 = .ok (.iconst 0, 1) := by decide +kernel
theorem dL_law_568 : decode cL_law 568 = .ok (.ireturn, 1) := by decide +kernel
theorem dL_law_569 : decode cL_law 569 = .ok (.aload_n 1, 1) := by decide +kernel
theorem dL_law_570 : decode cL_law 570 = .ok (.aload_n 0, 1) := by decide +kernel
theorem dL_law_571 : decode cL_law 571 = .ok (.iload_n 3, 1) := by decide +kernel
theorem dL_law_572 : decode cL_law 572 = .ok (.iconst 1, 1) := by decide +kernel
theorem dL_law_573 : decode cL_law 573 = .ok (.iadd, 1) := by decide +kernel
theorem dL_law_574 : decode cL_law 574 = .ok (.iaload, 1) := by decide +kernel
theorem dL_law_575 : decode cL_law 575 = .ok (.aload_n 0, 1) := by decide +kernel
theorem dL_law_576 : decode cL_law 576 = .ok (.iload_n 3, 1) := by decide +kernel
theorem dL_law_577 : decode cL_law 577 = .ok (.iconst 2, 1) := by decide +kernel
theorem dL_law_578 : decode cL_law 578 = .ok (.iadd, 1) := by decide +kernel
theorem dL_law_579 : decode cL_law 579 = .ok (.iaload, 1) := by decide +kernel
theorem dL_law_580 : decode cL_law 580 = .ok (.invokevirtual 63, 3) := by decide +kernel
theorem dL_law_583 : decode cL_law 583 = .ok (.aload_n 2, 1) := by decide +kernel
theorem dL_law_584 : decode cL_law 584 = .ok (.aload_n 0, 1) := by decide +kernel
theorem dL_law_585 : decode cL_law 585 = .ok (.iload_n 3, 1) := by decide +kernel
theorem dL_law_586 : decode cL_law 586 = .ok (.iconst 1, 1) := by decide +kernel
theorem dL_law_587 : decode cL_law 587 = .ok (.iadd, 1) := by decide +kernel
theorem dL_law_588 : decode cL_law 588 = .ok (.iaload, 1) := by decide +kernel
theorem dL_law_589 : decode cL_law 589 = .ok (.aload_n 0, 1) := by decide +kernel
theorem dL_law_590 : decode cL_law 590 = .ok (.iload_n 3, 1) := by decide +kernel
theorem dL_law_591 : decode cL_law 591 = .ok (.iconst 2, 1) := by decide +kernel
theorem dL_law_592 : decode cL_law 592 = .ok (.iadd, 1) := by decide +kernel
theorem dL_law_593 : decode cL_law 593 = .ok (.iaload, 1) := by decide +kernel
theorem dL_law_594 : decode cL_law 594 = .ok (.invokevirtual 66, 3) := by decide +kernel
theorem dL_law_597 : decode cL_law 597 = .ok (.if_icmp .eq 581, 3) := by decide +kernel
theorem dL_law_600 : decode cL_law 600 = .ok (.iconst 0, 1) := by decide +kernel
theorem dL_law_601 : decode cL_law 601 = .ok (.ireturn, 1) := by decide +kernel
theorem dL_law_602 : decode cL_law 602 = .ok (.aload_n 1, 1) := by decide +kernel
theorem dL_law_603 : decode cL_law 603 = .ok (.aload_n 0, 1) := by decide +kernel
theorem dL_law_604 : decode cL_law 604 = .ok (.iload_n 3, 1) := by decide +kernel
theorem dL_law_605 : decode cL_law 605 = .ok (.iconst 1, 1) := by decide +kernel
theorem dL_law_606 : decode cL_law 606 = .ok (.iadd, 1) := by decide +kernel
theorem dL_law_607 : decode cL_law 607 = .ok (.iaload, 1) := by decide +kernel
theorem dL_law_608 : decode cL_law 608 = .ok (.invokevirtual 67, 3) := by decide +kernel
theorem dL_law_611 : decode cL_law 611 = .ok (.aload_n 2, 1) := by decide +kernel
theorem dL_law_612 : decode cL_law 612 = .ok (.aload_n 0, 1) := by decide +kernel
theorem dL_law_613 : decode cL_law 613 = .ok (.iload_n 3, 1) := by decide +kernel
theorem dL_law_614 : decode cL_law 614 = .ok (.iconst 1, 1) := by decide +kernel
theorem dL_law_615 : decode cL_law 615 = .ok (.iadd, 1) := by decide +kernel
theorem dL_law_616 : decode cL_law 616 = .ok (.iaload, 1) := by decide +kernel
theorem dL_law_617 : decode cL_law 617 = .ok (.invokevirtual 70, 3) := by decide +kernel
theorem dL_law_620 : decode cL_law 620 = .ok (.lcmp, 1) := by decide +kernel
theorem dL_law_621 : decode cL_law 621 = .ok (.ifCond .eq 557, 3) := by decide +kernel
theorem dL_law_624 : decode cL_law 624 = .ok (.iconst 0, 1) := by decide +kernel
theorem dL_law_625 : decode cL_law 625 = .ok (.ireturn, 1) := by decide +kernel
theorem dL_law_626 : decode cL_law 626 = .ok (.aload_n 1, 1) := by decide +kernel
theorem dL_law_627 : decode cL_law 627 = .ok (.aload_n 0, 1) := by decide +kernel
theorem dL_law_628 : decode cL_law 628 = .ok (.iload_n 3, 1) := by decide +kernel
theorem dL_law_629 : decode cL_law 629 = .ok (.iconst 1, 1) := by decide +kernel
theorem dL_law_630 : decode cL_law 630 = .ok (.iadd, 1) := by decide +kernel
theorem dL_law_631 : decode cL_law 631 = .ok (.iaload, 1) := by decide +kernel
theorem dL_law_632 : decode cL_law 632 = .ok (.aload_n 0, 1) := by decide +kernel
theorem dL_law_633 : decode cL_law 633 = .ok (.iload_n 3, 1) := by decide +kernel
theorem dL_law_634 : decode cL_law 634 = .ok (.iconst 2, 1) := by decide +kernel
theorem dL_law_635 : decode cL_law 635 = .ok (.iadd, 1) := by decide +kernel
theorem dL_law_636 : decode cL_law 636 = .ok (.iaload, 1) := by decide +kernel
theorem dL_law_637 : decode cL_law 637 = .ok (.aload_n 0, 1) := by decide +kernel
theorem dL_law_638 : decode cL_law 638 = .ok (.iload_n 3, 1) := by decide +kernel
theorem dL_law_639 : decode cL_law 639 = .ok (.iconst 3, 1) := by decide +kernel
theorem dL_law_640 : decode cL_law 640 = .ok (.iadd, 1) := by decide +kernel
theorem dL_law_641 : decode cL_law 641 = .ok (.iaload, 1) := by decide +kernel
theorem dL_law_642 : decode cL_law 642 = .ok (.invokevirtual 71, 3) := by decide +kernel
theorem dL_law_645 : decode cL_law 645 = .ok (.aload_n 2, 1) := by decide +kernel
theorem dL_law_646 : decode cL_law 646 = .ok (.aload_n 0, 1) := by decide +kernel
theorem dL_law_647 : decode cL_law 647 = .ok (.iload_n 3, 1) := by decide +kernel
theorem dL_law_648 : decode cL_law 648 = .ok (.iconst 1, 1) := by decide +kernel
theorem dL_law_649 : decode cL_law 649 = .ok (.iadd, 1) := by decide +kernel
theorem dL_law_650 : decode cL_law 650 = .ok (.iaload, 1) := by decide +kernel
theorem dL_law_651 : decode cL_law 651 = .ok (.aload_n 0, 1) := by decide +kernel
theorem dL_law_652 : decode cL_law 652 = .ok (.iload_n 3, 1) := by decide +kernel
theorem dL_law_653 : decode cL_law 653 = .ok (.iconst 2, 1) := by decide +kernel
theorem dL_law_654 : decode cL_law 654 = .ok (.iadd, 1) := by decide +kernel
theorem dL_law_655 : decode cL_law 655 = .ok (.iaload, 1) := by decide +kernel
theorem dL_law_656 : decode cL_law 656 = .ok (.aload_n 0, 1) := by decide +kernel
theorem dL_law_657 : decode cL_law 657 = .ok (.iload_n 3, 1) := by decide +kernel
theorem dL_law_658 : decode cL_law 658 = .ok (.iconst 3, 1) := by decide +kernel
theorem dL_law_659 : decode cL_law 659 = .ok (.iadd, 1) := by decide +kernel
theorem dL_law_660 : decode cL_law 660 = .ok (.iaload, 1) := by decide +kernel
theorem dL_law_661 : decode cL_law 661 = .ok (.invokevirtual 74, 3) := by decide +kernel
theorem dL_law_664 : decode cL_law 664 = .ok (.if_icmp .eq 514, 3) := by decide +kernel
theorem dL_law_667 : decode cL_law 667 = .ok (.iconst 0, 1) := by decide +kernel
theorem dL_law_668 : decode cL_law 668 = .ok (.ireturn, 1) := by decide +kernel
theorem dL_law_669 : decode cL_law 669 = .ok (.aload_n 1, 1) := by decide +kernel
theorem dL_law_670 : decode cL_law 670 = .ok (.aload_n 0, 1) := by decide +kernel
theorem dL_law_671 : decode cL_law 671 = .ok (.iload_n 3, 1) := by decide +kernel
theorem dL_law_672 : decode cL_law 672 = .ok (.iconst 1, 1) := by decide +kernel
theorem dL_law_673 : decode cL_law 673 = .ok (.iadd, 1) := by decide +kernel
theorem dL_law_674 : decode cL_law 674 = .ok (.iaload, 1) := by decide +kernel
theorem dL_law_675 : decode cL_law 675 = .ok (.aload_n 0, 1) := by decide +kernel
theorem dL_law_676 : decode cL_law 676 = .ok (.iload_n 3, 1) := by decide +kernel
theorem dL_law_677 : decode cL_law 677 = .ok (.iconst 2, 1) := by decide +kernel
theorem dL_law_678 : decode cL_law 678 = .ok (.iadd, 1) := by decide +kernel
theorem dL_law_679 : decode cL_law 679 = .ok (.iaload, 1) := by decide +kernel
theorem dL_law_680 : decode cL_law 680 = .ok (.invokevirtual 75, 3) := by decide +kernel
theorem dL_law_683 : decode cL_law 683 = .ok (.aload_n 2, 1) := by decide +kernel
theorem dL_law_684 : decode cL_law 684 = .ok (.aload_n 0, 1) := by decide +kernel
theorem dL_law_685 : decode cL_law 685 = .ok (.iload_n 3, 1) := by decide +kernel
theorem dL_law_686 : decode cL_law 686 = .ok (.iconst 1, 1) := by decide +kernel
theorem dL_law_687 : decode cL_law 687 = .ok (.iadd, 1) := by decide +kernel
theorem dL_law_688 : decode cL_law 688 = .ok (.iaload, 1) := by decide +kernel
theorem dL_law_689 : decode cL_law 689 = .ok (.aload_n 0, 1) := by decide +kernel
theorem dL_law_690 : decode cL_law 690 = .ok (.iload_n 3, 1) := by decide +kernel
theorem dL_law_691 : decode cL_law 691 = .ok (.iconst 2, 1) := by decide +kernel
theorem dL_law_692 : decode cL_law 692 = .ok (.iadd, 1) := by decide +kernel
theorem dL_law_693 : decode cL_law 693 = .ok (.iaload, 1) := by decide +kernel
theorem dL_law_694 : decode cL_law 694 = .ok (.invokevirtual 78, 3) := by decide +kernel
theorem dL_law_697 : decode cL_law 697 = .ok (.if_icmp .eq 481, 3) := by decide +kernel
theorem dL_law_700 : decode cL_law 700 = .ok (.iconst 0, 1) := by decide +kernel
theorem dL_law_701 : decode cL_law 701 = .ok (.ireturn, 1) := by decide +kernel
theorem dL_law_702 : decode cL_law 702 = .ok (.aload_n 1, 1) := by decide +kernel
theorem dL_law_703 : decode cL_law 703 = .ok (.aload_n 0, 1) := by decide +kernel
theorem dL_law_704 : decode cL_law 704 = .ok (.iload_n 3, 1) := by decide +kernel
theorem dL_law_705 : decode cL_law 705 = .ok (.iconst 1, 1) := by decide +kernel
theorem dL_law_706 : decode cL_law 706 = .ok (.iadd, 1) := by decide +kernel
theorem dL_law_707 : decode cL_law 707 = .ok (.iaload, 1) := by decide +kernel
theorem dL_law_708 : decode cL_law 708 = .ok (.aload_n 0, 1) := by decide +kernel
theorem dL_law_709 : decode cL_law 709 = .ok (.iload_n 3, 1) := by decide +kernel
theorem dL_law_710 : decode cL_law 710 = .ok (.iconst 2, 1) := by decide +kernel
theorem dL_law_711 : decode cL_law 711 = .ok (.iadd, 1) := by decide +kernel
theorem dL_law_712 : decode cL_law 712 = .ok (.iaload, 1) := by decide +kernel
theorem dL_law_713 : decode cL_law 713 = .ok (.aload_n 0, 1) := by decide +kernel
theorem dL_law_714 : decode cL_law 714 = .ok (.iload_n 3, 1) := by decide +kernel
theorem dL_law_715 : decode cL_law 715 = .ok (.iconst 3, 1) := by decide +kernel
theorem dL_law_716 : decode cL_law 716 = .ok (.iadd, 1) := by decide +kernel
theorem dL_law_717 : decode cL_law 717 = .ok (.iaload, 1) := by decide +kernel
theorem dL_law_718 : decode cL_law 718 = .ok (.aload_n 0, 1) := by decide +kernel
theorem dL_law_719 : decode cL_law 719 = .ok (.iload_n 3, 1) := by decide +kernel
theorem dL_law_720 : decode cL_law 720 = .ok (.iconst 4, 1) := by decide +kernel
theorem dL_law_721 : decode cL_law 721 = .ok (.iadd, 1) := by decide +kernel
theorem dL_law_722 : decode cL_law 722 = .ok (.iaload, 1) := by decide +kernel
theorem dL_law_723 : decode cL_law 723 = .ok (.aload_n 0, 1) := by decide +kernel
theorem dL_law_724 : decode cL_law 724 = .ok (.iload_n 3, 1) := by decide +kernel
theorem dL_law_725 : decode cL_law 725 = .ok (.iconst 5, 1) := by decide +kernel
theorem dL_law_726 : decode cL_law 726 = .ok (.iadd, 1) := by decide +kernel
theorem dL_law_727 : decode cL_law 727 = .ok (.iaload, 1) := by decide +kernel
theorem dL_law_728 : decode cL_law 728 = .ok (.aload_n 0, 1) := by decide +kernel
theorem dL_law_729 : decode cL_law 729 = .ok (.iload_n 3, 1) := by decide +kernel
theorem dL_law_730 : decode cL_law 730 = .ok (.bipush 6, 2) := by decide +kernel
theorem dL_law_732 : decode cL_law 732 = .ok (.iadd, 1) := by decide +kernel
theorem dL_law_733 : decode cL_law 733 = .ok (.iaload, 1) := by decide +kernel
theorem dL_law_734 : decode cL_law 734 = .ok (.invokevirtual 79, 3) := by decide +kernel
theorem dL_law_737 : decode cL_law 737 = .ok (.aload_n 2, 1) := by decide +kernel
theorem dL_law_738 : decode cL_law 738 = .ok (.aload_n 0, 1) := by decide +kernel
theorem dL_law_739 : decode cL_law 739 = .ok (.iload_n 3, 1) := by decide +kernel
theorem dL_law_740 : decode cL_law 740 = .ok (.iconst 1, 1) := by decide +kernel
theorem dL_law_741 : decode cL_law 741 = .ok (.iadd, 1) := by decide +kernel
theorem dL_law_742 : decode cL_law 742 = .ok (.iaload, 1) := by decide +kernel
theorem dL_law_743 : decode cL_law 743 = .ok (.aload_n 0, 1) := by decide +kernel
theorem dL_law_744 : decode cL_law 744 = .ok (.iload_n 3, 1) := by decide +kernel
theorem dL_law_745 : decode cL_law 745 = .ok (.iconst 2, 1) := by decide +kernel
theorem dL_law_746 : decode cL_law 746 = .ok (.iadd, 1) := by decide +kernel
theorem dL_law_747 : decode cL_law 747 = .ok (.iaload, 1) := by decide +kernel
theorem dL_law_748 : decode cL_law 748 = .ok (.aload_n 0, 1) := by decide +kernel
theorem dL_law_749 : decode cL_law 749 = .ok (.iload_n 3, 1) := by decide +kernel
theorem dL_law_750 : decode cL_law 750 = .ok (.iconst 3, 1) := by decide +kernel
theorem dL_law_751 : decode cL_law 751 = .ok (.iadd, 1) := by decide +kernel
theorem dL_law_752 : decode cL_law 752 = .ok (.iaload, 1) := by decide +kernel
theorem dL_law_753 : decode cL_law 753 = .ok (.aload_n 0, 1) := by decide +kernel
theorem dL_law_754 : decode cL_law 754 = .ok (.iload_n 3, 1) := by decide +kernel
theorem dL_law_755 : decode cL_law 755 = .ok (.iconst 4, 1) := by decide +kernel
theorem dL_law_756 : decode cL_law 756 = .ok (.iadd, 1) := by decide +kernel
theorem dL_law_757 : decode cL_law 757 = .ok (.iaload, 1) := by decide +kernel
theorem dL_law_758 : decode cL_law 758 = .ok (.aload_n 0, 1) := by decide +kernel
theorem dL_law_759 : decode cL_law 759 = .ok (.iload_n 3, 1) := by decide +kernel
theorem dL_law_760 : decode cL_law 760 = .ok (.iconst 5, 1) := by decide +kernel
theorem dL_law_761 : decode cL_law 761 = .ok (.iadd, 1) := by decide +kernel
theorem dL_law_762 : decode cL_law 762 = .ok (.iaload, 1) := by decide +kernel
theorem dL_law_763 : decode cL_law 763 = .ok (.aload_n 0, 1) := by decide +kernel
theorem dL_law_764 : decode cL_law 764 = .ok (.iload_n 3, 1) := by decide +kernel
theorem dL_law_765 : decode cL_law 765 = .ok (.bipush 6, 2) := by decide +kernel
theorem dL_law_767 : decode cL_law 767 = .ok (.iadd, 1) := by decide +kernel
theorem dL_law_768 : decode cL_law 768 = .ok (.iaload, 1) := by decide +kernel
theorem dL_law_769 : decode cL_law 769 = .ok (.invokevirtual 82, 3) := by decide +kernel
theorem dL_law_772 : decode cL_law 772 = .ok (.if_icmp .eq 406, 3) := by decide +kernel
theorem dL_law_775 : decode cL_law 775 = .ok (.iconst 0, 1) := by decide +kernel
theorem dL_law_776 : decode cL_law 776 = .ok (.ireturn, 1) := by decide +kernel
theorem dL_law_777 : decode cL_law 777 = .ok (.aload_n 1, 1) := by decide +kernel
theorem dL_law_778 : decode cL_law 778 = .ok (.aload_n 0, 1) := by decide +kernel
theorem dL_law_779 : decode cL_law 779 = .ok (.iload_n 3, 1) := by decide +kernel
theorem dL_law_780 : decode cL_law 780 = .ok (.iconst 1, 1) := by decide +kernel
theorem dL_law_781 : decode cL_law 781 = .ok (.iadd, 1) := by decide +kernel
theorem dL_law_782 : decode cL_law 782 = .ok (.iaload, 1) := by decide +kernel
theorem dL_law_783 : decode cL_law 783 = .ok (.aload_n 0, 1) := by decide +kernel
theorem dL_law_784 : decode cL_law 784 = .ok (.iload_n 3, 1) := by decide +kernel
theorem dL_law_785 : decode cL_law 785 = .ok (.iconst 2, 1) := by decide +kernel
theorem dL_law_786 : decode cL_law 786 = .ok (.iadd, 1) := by decide +kernel
theorem dL_law_787 : decode cL_law 787 = .ok (.iaload, 1) := by decide +kernel
theorem dL_law_788 : decode cL_law 788 = .ok (.invokevirtual 83, 3) := by decide +kernel
theorem dL_law_791 : decode cL_law 791 = .ok (.aload_n 2, 1) := by decide +kernel
theorem dL_law_792 : decode cL_law 792 = .ok (.aload_n 0, 1) := by decide +kernel
theorem dL_law_793 : decode cL_law 793 = .ok (.iload_n 3, 1) := by decide +kernel
theorem dL_law_794 : decode cL_law 794 = .ok (.iconst 1, 1) := by decide +kernel
theorem dL_law_795 : decode cL_law 795 = .ok (.iadd, 1) := by decide +kernel
theorem dL_law_796 : decode cL_law 796 = .ok (.iaload, 1) := by decide +kernel
theorem dL_law_797 : decode cL_law 797 = .ok (.aload_n 0, 1) := by decide +kernel
theorem dL_law_798 : decode cL_law 798 = .ok (.iload_n 3, 1) := by decide +kernel
theorem dL_law_799 : decode cL_law 799 = .ok (.iconst 2, 1) := by decide +kernel
theorem dL_law_800 : decode cL_law 800 = .ok (.iadd, 1) := by decide +kernel
theorem dL_law_801 : decode cL_law 801 = .ok (.iaload, 1) := by decide +kernel
theorem dL_law_802 : decode cL_law 802 = .ok (.invokevirtual 86, 3) := by decide +kernel
theorem dL_law_805 : decode cL_law 805 = .ok (.lcmp, 1) := by decide +kernel
theorem dL_law_806 : decode cL_law 806 = .ok (.ifCond .eq 372, 3) := by decide +kernel
theorem dL_law_809 : decode cL_law 809 = .ok (.iconst 0, 1) := by decide +kernel
theorem dL_law_810 : decode cL_law 810 = .ok (.ireturn, 1) := by decide +kernel
theorem dL_law_811 : decode cL_law 811 = .ok (.aload_n 1, 1) := by decide +kernel
theorem dL_law_812 : decode cL_law 812 = .ok (.aload_n 0, 1) := by decide +kernel
theorem dL_law_813 : decode cL_law 813 = .ok (.iload_n 3, 1) := by decide +kernel
theorem dL_law_814 : decode cL_law 814 = .ok (.iconst 1, 1) := by decide +kernel
theorem dL_law_815 : decode cL_law 815 = .ok (.iadd, 1) := by decide +kernel
theorem dL_law_816 : decode cL_law 816 = .ok (.iaload, 1) := by decide +kernel
theorem dL_law_817 : decode cL_law 817 = .ok (.aload_n 0, 1) := by decide +kernel
theorem dL_law_818 : decode cL_law 818 = .ok (.iload_n 3, 1) := by decide +kernel
theorem dL_law_819 : decode cL_law 819 = .ok (.iconst 2, 1) := by decide +kernel
theorem dL_law_820 : decode cL_law 820 = .ok (.iadd, 1) := by decide +kernel
theorem dL_law_821 : decode cL_law 821 = .ok (.iaload, 1) := by decide +kernel
theorem dL_law_822 : decode cL_law 822 = .ok (.aload_n 0, 1) := by decide +kernel
theorem dL_law_823 : decode cL_law 823 = .ok (.iload_n 3, 1) := by decide +kernel
theorem dL_law_824 : decode cL_law 824 = .ok (.iconst 3, 1) := by decide +kernel
theorem dL_law_825 : decode cL_law 825 = .ok (.iadd, 1) := by decide +kernel
theorem dL_law_826 : decode cL_law 826 = .ok (.iaload, 1) := by decide +kernel
theorem dL_law_827 : decode cL_law 827 = .ok (.aload_n 0, 1) := by decide +kernel
theorem dL_law_828 : decode cL_law 828 = .ok (.iload_n 3, 1) := by decide +kernel
theorem dL_law_829 : decode cL_law 829 = .ok (.iconst 4, 1) := by decide +kernel
theorem dL_law_830 : decode cL_law 830 = .ok (.iadd, 1) := by decide +kernel
theorem dL_law_831 : decode cL_law 831 = .ok (.iaload, 1) := by decide +kernel
theorem dL_law_832 : decode cL_law 832 = .ok (.aload_n 0, 1) := by decide +kernel
theorem dL_law_833 : decode cL_law 833 = .ok (.iload_n 3, 1) := by decide +kernel
theorem dL_law_834 : decode cL_law 834 = .ok (.iconst 5, 1) := by decide +kernel
theorem dL_law_835 : decode cL_law 835 = .ok (.iadd, 1) := by decide +kernel
theorem dL_law_836 : decode cL_law 836 = .ok (.iaload, 1) := by decide +kernel
theorem dL_law_837 : decode cL_law 837 = .ok (.invokevirtual 87, 3) := by decide +kernel
theorem dL_law_840 : decode cL_law 840 = .ok (.aload_n 2, 1) := by decide +kernel
theorem dL_law_841 : decode cL_law 841 = .ok (.aload_n 0, 1) := by decide +kernel
theorem dL_law_842 : decode cL_law 842 = .ok (.iload_n 3, 1) := by decide +kernel
theorem dL_law_843 : decode cL_law 843 = .ok (.iconst 1, 1) := by decide +kernel
theorem dL_law_844 : decode cL_law 844 = .ok (.iadd, 1) := by decide +kernel
theorem dL_law_845 : decode cL_law 845 = .ok (.iaload, 1) := by decide +kernel
theorem dL_law_846 : decode cL_law 846 = .ok (.aload_n 0, 1) := by decide +kernel
theorem dL_law_847 : decode cL_law 847 = .ok (.iload_n 3, 1) := by decide +kernel
theorem dL_law_848 : decode cL_law 848 = .ok (.iconst 2, 1) := by decide +kernel
theorem dL_law_849 : decode cL_law 849 = .ok (.iadd, 1) := by decide +kernel
theorem dL_law_850 : decode cL_law 850 = .ok (.iaload, 1) := by decide +kernel
theorem dL_law_851 : decode cL_law 851 = .ok (.aload_n 0, 1) := by decide +kernel
theorem dL_law_852 : decode cL_law 852 = .ok (.iload_n 3, 1) := by decide +kernel
theorem dL_law_853 : decode cL_law 853 = .ok (.iconst 3, 1) := by decide +kernel
theorem dL_law_854 : decode cL_law 854 = .ok (.iadd, 1) := by decide +kernel
theorem dL_law_855 : decode cL_law 855 = .ok (.iaload, 1) := by decide +kernel
theorem dL_law_856 : decode cL_law 856 = .ok (.aload_n 0, 1) := by decide +kernel
theorem dL_law_857 : decode cL_law 857 = .ok (.iload_n 3, 1) := by decide +kernel
theorem dL_law_858 : decode cL_law 858 = .ok (.iconst 4, 1) := by decide +kernel
theorem dL_law_859 : decode cL_law 859 = .ok (.iadd, 1) := by decide +kernel
theorem dL_law_860 : decode cL_law 860 = .ok (.iaload, 1) := by decide +kernel
theorem dL_law_861 : decode cL_law 861 = .ok (.aload_n 0, 1) := by decide +kernel
theorem dL_law_862 : decode cL_law 862 = .ok (.iload_n 3, 1) := by decide +kernel
theorem dL_law_863 : decode cL_law 863 = .ok (.iconst 5, 1) := by decide +kernel
theorem dL_law_864 : decode cL_law 864 = .ok (.iadd, 1) := by decide +kernel
theorem dL_law_865 : decode cL_law 865 = .ok (.iaload, 1) := by decide +kernel
theorem dL_law_866 : decode cL_law 866 = .ok (.invokevirtual 91, 3) := by decide +kernel
theorem dL_law_869 : decode cL_law 869 = .ok (.if_icmp .eq 309, 3) := by decide +kernel
theorem dL_law_872 : decode cL_law 872 = .ok (.iconst 0, 1) := by decide +kernel
theorem dL_law_873 : decode cL_law 873 = .ok (.ireturn, 1) := by decide +kernel
theorem dL_law_874 : decode cL_law 874 = .ok (.aload_n 1, 1) := by decide +kernel
theorem dL_law_875 : decode cL_law 875 = .ok (.aload_n 0, 1) := by decide +kernel
theorem dL_law_876 : decode cL_law 876 = .ok (.iload_n 3, 1) := by decide +kernel
theorem dL_law_877 : decode cL_law 877 = .ok (.iconst 1, 1) := by decide +kernel
theorem dL_law_878 : decode cL_law 878 = .ok (.iadd, 1) := by decide +kernel
theorem dL_law_879 : decode cL_law 879 = .ok (.iaload, 1) := by decide +kernel
theorem dL_law_880 : decode cL_law 880 = .ok (.aload_n 0, 1) := by decide +kernel
theorem dL_law_881 : decode cL_law 881 = .ok (.iload_n 3, 1) := by decide +kernel
theorem dL_law_882 : decode cL_law 882 = .ok (.iconst 2, 1) := by decide +kernel
theorem dL_law_883 : decode cL_law 883 = .ok (.iadd, 1) := by decide +kernel
theorem dL_law_884 : decode cL_law 884 = .ok (.iaload, 1) := by decide +kernel
theorem dL_law_885 : decode cL_law 885 = .ok (.aload_n 0, 1) := by decide +kernel
theorem dL_law_886 : decode cL_law 886 = .ok (.iload_n 3, 1) := by decide +kernel
theorem dL_law_887 : decode cL_law 887 = .ok (.iconst 3, 1) := by decide +kernel
theorem dL_law_888 : decode cL_law 888 = .ok (.iadd, 1) := by decide +kernel
theorem dL_law_889 : decode cL_law 889 = .ok (.iaload, 1) := by decide +kernel
theorem dL_law_890 : decode cL_law 890 = .ok (.aload_n 0, 1) := by decide +kernel
theorem dL_law_891 : decode cL_law 891 = .ok (.iload_n 3, 1) := by decide +kernel
theorem dL_law_892 : decode cL_law 892 = .ok (.iconst 4, 1) := by decide +kernel
theorem dL_law_893 : decode cL_law 893 = .ok (.iadd, 1) := by decide +kernel
theorem dL_law_894 : decode cL_law 894 = .ok (.iaload, 1) := by decide +kernel
theorem dL_law_895 : decode cL_law 895 = .ok (.invokevirtual 92, 3) := by decide +kernel
theorem dL_law_898 : decode cL_law 898 = .ok (.aload_n 2, 1) := by decide +kernel
theorem dL_law_899 : decode cL_law 899 = .ok (.aload_n 0, 1) := by decide +kernel
theorem dL_law_900 : decode cL_law 900 = .ok (.iload_n 3, 1) := by decide +kernel
theorem dL_law_901 : decode cL_law 901 = .ok (.iconst 1, 1) := by decide +kernel
theorem dL_law_902 : decode cL_law 902 = .ok (.iadd, 1) := by decide +kernel
theorem dL_law_903 : decode cL_law 903 = .ok (.iaload, 1) := by decide +kernel
theorem dL_law_904 : decode cL_law 904 = .ok (.aload_n 0, 1) := by decide +kernel
theorem dL_law_905 : decode cL_law 905 = .ok (.iload_n 3, 1) := by decide +kernel
theorem dL_law_906 : decode cL_law 906 = .ok (.iconst 2, 1) := by decide +kernel
theorem dL_law_907 : decode cL_law 907 = .ok (.iadd, 1) := by decide +kernel
theorem dL_law_908 : decode cL_law 908 = .ok (.iaload, 1) := by decide +kernel
theorem dL_law_909 : decode cL_law 909 = .ok (.aload_n 0, 1) := by decide +kernel
theorem dL_law_910 : decode cL_law 910 = .ok (.iload_n 3, 1) := by decide +kernel
theorem dL_law_911 : decode cL_law 911 = .ok (.iconst 3, 1) := by decide +kernel
theorem dL_law_912 : decode cL_law 912 = .ok (.iadd, 1) := by decide +kernel
theorem dL_law_913 : decode cL_law 913 = .ok (.iaload, 1) := by decide +kernel
theorem dL_law_914 : decode cL_law 914 = .ok (.aload_n 0, 1) := by decide +kernel
theorem dL_law_915 : decode cL_law 915 = .ok (.iload_n 3, 1) := by decide +kernel
theorem dL_law_916 : decode cL_law 916 = .ok (.iconst 4, 1) := by decide +kernel
theorem dL_law_917 : decode cL_law 917 = .ok (.iadd, 1) := by decide +kernel
theorem dL_law_918 : decode cL_law 918 = .ok (.iaload, 1) := by decide +kernel
theorem dL_law_919 : decode cL_law 919 = .ok (.invokevirtual 96, 3) := by decide +kernel
theorem dL_law_922 : decode cL_law 922 = .ok (.if_icmp .eq 256, 3) := by decide +kernel
theorem dL_law_925 : decode cL_law 925 = .ok (.iconst 0, 1) := by decide +kernel
theorem dL_law_926 : decode cL_law 926 = .ok (.ireturn, 1) := by decide +kernel
theorem dL_law_927 : decode cL_law 927 = .ok (.aload_n 1, 1) := by decide +kernel
theorem dL_law_928 : decode cL_law 928 = .ok (.aload_n 0, 1) := by decide +kernel
theorem dL_law_929 : decode cL_law 929 = .ok (.iload_n 3, 1) := by decide +kernel
theorem dL_law_930 : decode cL_law 930 = .ok (.iconst 1, 1) := by decide +kernel
theorem dL_law_931 : decode cL_law 931 = .ok (.iadd, 1) := by decide +kernel
theorem dL_law_932 : decode cL_law 932 = .ok (.iaload, 1) := by decide +kernel
theorem dL_law_933 : decode cL_law 933 = .ok (.aload_n 0, 1) := by decide +kernel
theorem dL_law_934 : decode cL_law 934 = .ok (.iload_n 3, 1) := by decide +kernel
theorem dL_law_935 : decode cL_law 935 = .ok (.iconst 2, 1) := by decide +kernel
theorem dL_law_936 : decode cL_law 936 = .ok (.iadd, 1) := by decide +kernel
theorem dL_law_937 : decode cL_law 937 = .ok (.iaload, 1) := by decide +kernel
theorem dL_law_938 : decode cL_law 938 = .ok (.aload_n 0, 1) := by decide +kernel
theorem dL_law_939 : decode cL_law 939 = .ok (.iload_n 3, 1) := by decide +kernel
theorem dL_law_940 : decode cL_law 940 = .ok (.iconst 3, 1) := by decide +kernel
theorem dL_law_941 : decode cL_law 941 = .ok (.iadd, 1) := by decide +kernel
theorem dL_law_942 : decode cL_law 942 = .ok (.iaload, 1) := by decide +kernel
theorem dL_law_943 : decode cL_law 943 = .ok (.aload_n 0, 1) := by decide +kernel
theorem dL_law_944 : decode cL_law 944 = .ok (.iload_n 3, 1) := by decide +kernel
theorem dL_law_945 : decode cL_law 945 = .ok (.iconst 4, 1) := by decide +kernel
theorem dL_law_946 : decode cL_law 946 = .ok (.iadd, 1) := by decide +kernel
theorem dL_law_947 : decode cL_law 947 = .ok (.iaload, 1) := by decide +kernel
theorem dL_law_948 : decode cL_law 948 = .ok (.invokevirtual 97, 3) := by decide +kernel
theorem dL_law_951 : decode cL_law 951 = .ok (.aload_n 2, 1) := by decide +kernel
theorem dL_law_952 : decode cL_law 952 = .ok (.aload_n 0, 1) := by decide +kernel
theorem dL_law_953 : decode cL_law 953 = .ok (.iload_n 3, 1) := by decide +kernel
theorem dL_law_954 : decode cL_law 954 = .ok (.iconst 1, 1) := by decide +kernel
theorem dL_law_955 : decode cL_law 955 = .ok (.iadd, 1) := by decide +kernel
theorem dL_law_956 : decode cL_law 956 = .ok (.iaload, 1) := by decide +kernel
theorem dL_law_957 : decode cL_law 957 = .ok (.aload_n 0, 1) := by decide +kernel
theorem dL_law_958 : decode cL_law 958 = .ok (.iload_n 3, 1) := by decide +kernel
theorem dL_law_959 : decode cL_law 959 = .ok (.iconst 2, 1) := by decide +kernel
theorem dL_law_960 : decode cL_law 960 = .ok (.iadd, 1) := by decide +kernel
theorem dL_law_961 : decode cL_law 961 = .ok (.iaload, 1) := by decide +kernel
theorem dL_law_962 : decode cL_law 962 = .ok (.aload_n 0, 1) := by decide +kernel
theorem dL_law_963 : decode cL_law 963 = .ok (.iload_n 3, 1) := by decide +kernel
theorem dL_law_964 : decode cL_law 964 = .ok (.iconst 3, 1) := by decide +kernel
theorem dL_law_965 : decode cL_law 965 = .ok (.iadd, 1) := by decide +kernel
theorem dL_law_966 : decode cL_law 966 = .ok (.iaload, 1) := by decide +kernel
theorem dL_law_967 : decode cL_law 967 = .ok (.aload_n 0, 1) := by decide +kernel
theorem dL_law_968 : decode cL_law 968 = .ok (.iload_n 3, 1) := by decide +kernel
theorem dL_law_969 : decode cL_law 969 = .ok (.iconst 4, 1) := by decide +kernel
theorem dL_law_970 : decode cL_law 970 = .ok (.iadd, 1) := by decide +kernel
theorem dL_law_971 : decode cL_law 971 = .ok (.iaload, 1) := by decide +kernel
theorem dL_law_972 : decode cL_law 972 = .ok (.invokevirtual 100, 3) := by decide +kernel
theorem dL_law_975 : decode cL_law 975 = .ok (.if_icmp .eq 203, 3) := by decide +kernel
theorem dL_law_978 : decode cL_law 978 = .ok (.iconst 0, 1) := by decide +kernel
theorem dL_law_979 : decode cL_law 979 = .ok (.ireturn, 1) := by decide +kernel
theorem dL_law_980 : decode cL_law 980 = .ok (.aload_n 1, 1) := by decide +kernel
theorem dL_law_981 : decode cL_law 981 = .ok (.invokevirtual 101, 3) := by decide +kernel
theorem dL_law_984 : decode cL_law 984 = .ok (.aload_n 2, 1) := by decide +kernel
theorem dL_law_985 : decode cL_law 985 = .ok (.invokevirtual 105, 3) := by decide +kernel
theorem dL_law_988 : decode cL_law 988 = .ok (.if_icmp .eq 190, 3) := by decide +kernel
theorem dL_law_991 : decode cL_law 991 = .ok (.iconst 0, 1) := by decide +kernel
theorem dL_law_992 : decode cL_law 992 = .ok (.ireturn, 1) := by decide +kernel
theorem dL_law_993 : decode cL_law 993 = .ok (.aload_n 1, 1) := by decide +kernel
theorem dL_law_994 : decode cL_law 994 = .ok (.invokevirtual 106, 3) := by decide +kernel
theorem dL_law_997 : decode cL_law 997 = .ok (.aload_n 2, 1) := by decide +kernel
theorem dL_law_998 : decode cL_law 998 = .ok (.invokevirtual 109, 3) := by decide +kernel
theorem dL_law_1001 : decode cL_law 1001 = .ok (.if_icmp .eq 177, 3) := by decide +kernel
theorem dL_law_1004 : decode cL_law 1004 = .ok (.iconst 0, 1) := by decide +kernel
theorem dL_law_1005 : decode cL_law 1005 = .ok (.ireturn, 1) := by decide +kernel
theorem dL_law_1006 : decode cL_law 1006 = .ok (.aload_n 1, 1) := by decide +kernel
theorem dL_law_1007 : decode cL_law 1007 = .ok (.aload_n 0, 1) := by decide +kernel
theorem dL_law_1008 : decode cL_law 1008 = .ok (.iload_n 3, 1) := by decide +kernel
theorem dL_law_1009 : decode cL_law 1009 = .ok (.iconst 1, 1) := by decide +kernel
theorem dL_law_1010 : decode cL_law 1010 = .ok (.iadd, 1) := by decide +kernel
theorem dL_law_1011 : decode cL_law 1011 = .ok (.iaload, 1) := by decide +kernel
theorem dL_law_1012 : decode cL_law 1012 = .ok (.invokevirtual 110, 3) := by decide +kernel
theorem dL_law_1015 : decode cL_law 1015 = .ok (.aload_n 2, 1) := by decide +kernel
theorem dL_law_1016 : decode cL_law 1016 = .ok (.aload_n 0, 1) := by decide +kernel
theorem dL_law_1017 : decode cL_law 1017 = .ok (.iload_n 3, 1) := by decide +kernel
theorem dL_law_1018 : decode cL_law 1018 = .ok (.iconst 1, 1) := by decide +kernel
theorem dL_law_1019 : decode cL_law 1019 = .ok (.iadd, 1) := by decide +kernel
theorem dL_law_1020 : decode cL_law 1020 = .ok (.iaload, 1) := by decide +kernel
theorem dL_law_1021 : decode cL_law 1021 = .ok (.invokevirtual 113, 3) := by decide +kernel
theorem dL_law_1024 : decode cL_law 1024 = .ok (.if_icmp .eq 154, 3) := by decide +kernel
theorem dL_law_1027 : decode cL_law 1027 = .ok (.iconst 0, 1) := by decide +kernel
theorem dL_law_1028 : decode cL_law 1028 = .ok (.ireturn, 1) := by decide +kernel
theorem dL_law_1029 : decode cL_law 1029 = .ok (.aload_n 1, 1) := by decide +kernel
theorem dL_law_1030 : decode cL_law 1030 = .ok (.aload_n 0, 1) := by decide +kernel
theorem dL_law_1031 : decode cL_law 1031 = .ok (.iload_n 3, 1) := by decide +kernel
theorem dL_law_1032 : decode cL_law 1032 = .ok (.iconst 1, 1) := by decide +kernel
theorem dL_law_1033 : decode cL_law 1033 = .ok (.iadd, 1) := by decide +kernel
theorem dL_law_1034 : decode cL_law 1034 = .ok (.iaload, 1) := by decide +kernel
theorem dL_law_1035 : decode cL_law 1035 = .ok (.aload_n 0, 1) := by decide +kernel
theorem dL_law_1036 : decode cL_law 1036 = .ok (.iload_n 3, 1) := by decide +kernel
theorem dL_law_1037 : decode cL_law 1037 = .ok (.iconst 2, 1) := by decide +kernel
theorem dL_law_1038 : decode cL_law 1038 = .ok (.iadd, 1) := by decide +kernel
theorem dL_law_1039 : decode cL_law 1039 = .ok (.iaload, 1) := by decide +kernel
theorem dL_law_1040 : decode cL_law 1040 = .ok (.aload_n 0, 1) := by decide +kernel
theorem dL_law_1041 : decode cL_law 1041 = .ok (.iload_n 3, 1) := by decide +kernel
theorem dL_law_1042 : decode cL_law 1042 = .ok (.iconst 3, 1) := by decide +kernel
theorem dL_law_1043 : decode cL_law 1043 = .ok (.iadd, 1) := by decide +kernel
theorem dL_law_1044 : decode cL_law 1044 = .ok (.iaload, 1) := by decide +kernel
theorem dL_law_1045 : decode cL_law 1045 = .ok (.invokevirtual 114, 3) := by decide +kernel
theorem dL_law_1048 : decode cL_law 1048 = .ok (.aload_n 2, 1) := by decide +kernel
theorem dL_law_1049 : decode cL_law 1049 = .ok (.aload_n 0, 1) := by decide +kernel
theorem dL_law_1050 : decode cL_law 1050 = .ok (.iload_n 3, 1) := by decide +kernel
theorem dL_law_1051 : decode cL_law 1051 = .ok (.iconst 1, 1) := by decide +kernel
theorem dL_law_1052 : decode cL_law 1052 = .ok (.iadd, 1) := by decide +kernel
theorem dL_law_1053 : decode cL_law 1053 = .ok (.iaload, 1) := by decide +kernel
theorem dL_law_1054 : decode cL_law 1054 = .ok (.aload_n 0, 1) := by decide +kernel
theorem dL_law_1055 : decode cL_law 1055 = .ok (.iload_n 3, 1) := by decide +kernel
theorem dL_law_1056 : decode cL_law 1056 = .ok (.iconst 2, 1) := by decide +kernel
theorem dL_law_1057 : decode cL_law 1057 = .ok (.iadd, 1) := by decide +kernel
theorem dL_law_1058 : decode cL_law 1058 = .ok (.iaload, 1) := by decide +kernel
theorem dL_law_1059 : decode cL_law 1059 = .ok (.aload_n 0, 1) := by decide +kernel
theorem dL_law_1060 : decode cL_law 1060 = .ok (.iload_n 3, 1) := by decide +kernel
theorem dL_law_1061 : decode cL_law 1061 = .ok (.iconst 3, 1) := by decide +kernel
theorem dL_law_1062 : decode cL_law 1062 = .ok (.iadd, 1) := by decide +kernel
theorem dL_law_1063 : decode cL_law 1063 = .ok (.iaload, 1) := by decide +kernel
theorem dL_law_1064 : decode cL_law 1064 = .ok (.invokevirtual 117, 3) := by decide +kernel
theorem dL_law_1067 : decode cL_law 1067 = .ok (.if_icmp .eq 111, 3) := by decide +kernel
theorem dL_law_1070 : decode cL_law 1070 = .ok (.iconst 0, 1) := by decide +kernel
theorem dL_law_1071 : decode cL_law 1071 = .ok (.ireturn, 1) := by decide +kernel
theorem dL_law_1072 : decode cL_law 1072 = .ok (.aload_n 1, 1) := by decide +kernel
theorem dL_law_1073 : decode cL_law 1073 = .ok (.aload_n 0, 1) := by decide +kernel
theorem dL_law_1074 : decode cL_law 1074 = .ok (.iload_n 3, 1) := by decide +kernel
theorem dL_law_1075 : decode cL_law 1075 = .ok (.iconst 1, 1) := by decide +kernel
theorem dL_law_1076 : decode cL_law 1076 = .ok (.iadd, 1) := by decide +kernel
theorem dL_law_1077 : decode cL_law 1077 = .ok (.iaload, 1) := by decide +kernel
theorem dL_law_1078 : decode cL_law 1078 = .ok (.aload_n 0, 1) := by decide +kernel
theorem dL_law_1079 : decode cL_law 1079 = .ok (.iload_n 3, 1) := by decide +kernel
theorem dL_law_1080 : decode cL_law 1080 = .ok (.iconst 2, 1) := by decide +kernel
theorem dL_law_1081 : decode cL_law 1081 = .ok (.iadd, 1) := by decide +kernel
theorem dL_law_1082 : decode cL_law 1082 = .ok (.iaload, 1) := by decide +kernel
theorem dL_law_1083 : decode cL_law 1083 = .ok (.aload_n 0, 1) := by decide +kernel
theorem dL_law_1084 : decode cL_law 1084 = .ok (.iload_n 3, 1) := by decide +kernel
theorem dL_law_1085 : decode cL_law 1085 = .ok (.iconst 3, 1) := by decide +kernel
theorem dL_law_1086 : decode cL_law 1086 = .ok (.iadd, 1) := by decide +kernel
theorem dL_law_1087 : decode cL_law 1087 = .ok (.iaload, 1) := by decide +kernel
theorem dL_law_1088 : decode cL_law 1088 = .ok (.invokevirtual 118, 3) := by decide +kernel
theorem dL_law_1091 : decode cL_law 1091 = .ok (.aload_n 2, 1) := by decide +kernel
theorem dL_law_1092 : decode cL_law 1092 = .ok (.aload_n 0, 1) := by decide +kernel
theorem dL_law_1093 : decode cL_law 1093 = .ok (.iload_n 3, 1) := by decide +kernel
theorem dL_law_1094 : decode cL_law 1094 = .ok (.iconst 1, 1) := by decide +kernel
theorem dL_law_1095 : decode cL_law 1095 = .ok (.iadd, 1) := by decide +kernel
theorem dL_law_1096 : decode cL_law 1096 = .ok (.iaload, 1) := by decide +kernel
theorem dL_law_1097 : decode cL_law 1097 = .ok (.aload_n 0, 1) := by decide +kernel
theorem dL_law_1098 : decode cL_law 1098 = .ok (.iload_n 3, 1) := by decide +kernel
theorem dL_law_1099 : decode cL_law 1099 = .ok (.iconst 2, 1) := by decide +kernel
theorem dL_law_1100 : decode cL_law 1100 = .ok (.iadd, 1) := by decide +kernel
theorem dL_law_1101 : decode cL_law 1101 = .ok (.iaload, 1) := by decide +kernel
theorem dL_law_1102 : decode cL_law 1102 = .ok (.aload_n 0, 1) := by decide +kernel
theorem dL_law_1103 : decode cL_law 1103 = .ok (.iload_n 3, 1) := by decide +kernel
theorem dL_law_1104 : decode cL_law 1104 = .ok (.iconst 3, 1) := by decide +kernel
theorem dL_law_1105 : decode cL_law 1105 = .ok (.iadd, 1) := by decide +kernel
theorem dL_law_1106 : decode cL_law 1106 = .ok (.iaload, 1) := by decide +kernel
theorem dL_law_1107 : decode cL_law 1107 = .ok (.invokevirtual 121, 3) := by decide +kernel
theorem dL_law_1110 : decode cL_law 1110 = .ok (.if_icmp .eq 68, 3) := by decide +kernel
theorem dL_law_1113 : decode cL_law 1113 = .ok (.iconst 0, 1) := by decide +kernel
theorem dL_law_1114 : decode cL_law 1114 = .ok (.ireturn, 1) := by decide +kernel
theorem dL_law_1115 : decode cL_law 1115 = .ok (.aload_n 1, 1) := by decide +kernel
theorem dL_law_1116 : decode cL_law 1116 = .ok (.aload_n 0, 1) := by decide +kernel
theorem dL_law_1117 : decode cL_law 1117 = .ok (.iload_n 3, 1) := by decide +kernel
theorem dL_law_1118 : decode cL_law 1118 = .ok (.iconst 1, 1) := by decide +kernel
theorem dL_law_1119 : decode cL_law 1119 = .ok (.iadd, 1) := by decide +kernel
theorem dL_law_1120 : decode cL_law 1120 = .ok (.iaload, 1) := by decide +kernel
theorem dL_law_1121 : decode cL_law 1121 = .ok (.aload_n 0, 1) := by decide +kernel
theorem dL_law_1122 : decode cL_law 1122 = .ok (.iload_n 3, 1) := by decide +kernel
theorem dL_law_1123 : decode cL_law 1123 = .ok (.iconst 2, 1) := by decide +kernel
theorem dL_law_1124 : decode cL_law 1124 = .ok (.iadd, 1) := by decide +kernel
theorem dL_law_1125 : decode cL_law 1125 = .ok (.iaload, 1) := by decide +kernel
theorem dL_law_1126 : decode cL_law 1126 = .ok (.aload_n 0, 1) := by decide +kernel
theorem dL_law_1127 : decode cL_law 1127 = .ok (.iload_n 3, 1) := by decide +kernel
theorem dL_law_1128 : decode cL_law 1128 = .ok (.iconst 3, 1) := by decide +kernel
theorem dL_law_1129 : decode cL_law 1129 = .ok (.iadd, 1) := by decide +kernel
theorem dL_law_1130 : decode cL_law 1130 = .ok (.iaload, 1) := by decide +kernel
theorem dL_law_1131 : decode cL_law 1131 = .ok (.aload_n 0, 1) := by decide +kernel
theorem dL_law_1132 : decode cL_law 1132 = .ok (.iload_n 3, 1) := by decide +kernel
theorem dL_law_1133 : decode cL_law 1133 = .ok (.iconst 4, 1) := by decide +kernel
theorem dL_law_1134 : decode cL_law 1134 = .ok (.iadd, 1) := by decide +kernel
theorem dL_law_1135 : decode cL_law 1135 = .ok (.iaload, 1) := by decide +kernel
theorem dL_law_1136 : decode cL_law 1136 = .ok (.aload_n 0, 1) := by decide +kernel
theorem dL_law_1137 : decode cL_law 1137 = .ok (.iload_n 3, 1) := by decide +kernel
theorem dL_law_1138 : decode cL_law 1138 = .ok (.iconst 5, 1) := by decide +kernel
theorem dL_law_1139 : decode cL_law 1139 = .ok (.iadd, 1) := by decide +kernel
theorem dL_law_1140 : decode cL_law 1140 = .ok (.iaload, 1) := by decide +kernel
theorem dL_law_1141 : decode cL_law 1141 = .ok (.invokevirtual 122, 3) := by decide +kernel
theorem dL_law_1144 : decode cL_law 1144 = .ok (.aload_n 2, 1) := by decide +kernel
theorem dL_law_1145 : decode cL_law 1145 = .ok (.aload_n 0, 1) := by decide +kernel
theorem dL_law_1146 : decode cL_law 1146 = .ok (.iload_n 3, 1) := by decide +kernel
theorem dL_law_1147 : decode cL_law 1147 = .ok (.iconst 1, 1) := by decide +kernel
theorem dL_law_1148 : decode cL_law 1148 = .ok (.iadd, 1) := by decide +kernel
theorem dL_law_1149 : decode cL_law 1149 = .ok (.iaload, 1) := by decide +kernel
theorem dL_law_1150 : decode cL_law 1150 = .ok (.aload_n 0, 1) := by decide +kernel
theorem dL_law_1151 : decode cL_law 1151 = .ok (.iload_n 3, 1) := by decide +kernel
theorem dL_law_1152 : decode cL_law 1152 = .ok (.iconst 2, 1) := by decide +kernel
theorem dL_law_1153 : decode cL_law 1153 = .ok (.iadd, 1) := by decide +kernel
theorem dL_law_1154 : decode cL_law 1154 = .ok (.iaload, 1) := by decide +kernel
theorem dL_law_1155 : decode cL_law 1155 = .ok (.aload_n 0, 1) := by decide +kernel
theorem dL_law_1156 : decode cL_law 1156 = .ok (.iload_n 3, 1) := by decide +kernel
theorem dL_law_1157 : decode cL_law 1157 = .ok (.iconst 3, 1) := by decide +kernel
theorem dL_law_1158 : decode cL_law 1158 = .ok (.iadd, 1) := by decide +kernel
theorem dL_law_1159 : decode cL_law 1159 = .ok (.iaload, 1) := by decide +kernel
theorem dL_law_1160 : decode cL_law 1160 = .ok (.aload_n 0, 1) := by decide +kernel
theorem dL_law_1161 : decode cL_law 1161 = .ok (.iload_n 3, 1) := by decide +kernel
theorem dL_law_1162 : decode cL_law 1162 = .ok (.iconst 4, 1) := by decide +kernel
theorem dL_law_1163 : decode cL_law 1163 = .ok (.iadd, 1) := by decide +kernel
theorem dL_law_1164 : decode cL_law 1164 = .ok (.iaload, 1) := by decide +kernel
theorem dL_law_1165 : decode cL_law 1165 = .ok (.aload_n 0, 1) := by decide +kernel
theorem dL_law_1166 : decode cL_law 1166 = .ok (.iload_n 3, 1) := by decide +kernel
theorem dL_law_1167 : decode cL_law 1167 = .ok (.iconst 5, 1) := by decide +kernel
theorem dL_law_1168 : decode cL_law 1168 = .ok (.iadd, 1) := by decide +kernel
theorem dL_law_1169 : decode cL_law 1169 = .ok (.iaload, 1) := by decide +kernel
theorem dL_law_1170 : decode cL_law 1170 = .ok (.invokevirtual 125, 3) := by decide +kernel
theorem dL_law_1173 : decode cL_law 1173 = .ok (.if_icmp .eq 5, 3) := by decide +kernel
theorem dL_law_1176 : decode cL_law 1176 = .ok (.iconst 0, 1) := by decide +kernel
theorem dL_law_1177 : decode cL_law 1177 = .ok (.ireturn, 1) := by decide +kernel
theorem dL_law_1178 : decode cL_law 1178 = .ok (.iinc 3 7, 3) := by decide +kernel
theorem dL_law_1181 : decode cL_law 1181 = .ok (.goto (-1163), 3) := by decide +kernel
theorem dL_law_1184 : decode cL_law 1184 = .ok (.iconst 1, 1) := by decide +kernel
theorem dL_law_1185 : decode cL_law 1185 = .ok (.ireturn, 1) := by decide +kernel
