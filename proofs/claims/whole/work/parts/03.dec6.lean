theorem dX7_his_73 : decode cX7_his 73 = .ok (.getfield 38, 3) := by decide +kernel
theorem dX7_his_76 : decode cX7_his 76 = .ok (.iload 5, 2) := by decide +kernel
theorem dX7_his_78 : decode cX7_his 78 = .ok (.iaload, 1) := by decide +kernel
theorem dX7_his_79 : decode cX7_his 79 = .ok (.iload_n 2, 1) := by decide +kernel
theorem dX7_his_80 : decode cX7_his 80 = .ok (.invokevirtual 146, 3) := by decide +kernel
theorem dX7_his_83 : decode cX7_his 83 = .ok (.ifCond .eq 49, 3) := by decide +kernel
theorem dX7_his_86 : decode cX7_his 86 = .ok (.iload 4, 2) := by decide +kernel
theorem dX7_his_88 : decode cX7_his 88 = .ok (.aload_n 0, 1) := by decide +kernel
theorem dX7_his_89 : decode cX7_his 89 = .ok (.iload_n 3, 1) := by decide +kernel
theorem dX7_his_90 : decode cX7_his 90 = .ok (.aload_n 0, 1) := by decide +kernel
theorem dX7_his_91 : decode cX7_his 91 = .ok (.getfield 38, 3) := by decide +kernel
theorem dX7_his_94 : decode cX7_his 94 = .ok (.iload 5, 2) := by decide +kernel
theorem dX7_his_96 : decode cX7_his 96 = .ok (.iaload, 1) := by decide +kernel
theorem dX7_his_97 : decode cX7_his 97 = .ok (.invokevirtual 169, 3) := by decide +kernel
theorem dX7_his_100 : decode cX7_his 100 = .ok (.iadd, 1) := by decide +kernel
theorem dX7_his_101 : decode cX7_his 101 = .ok (.istore 4, 2) := by decide +kernel
theorem dX7_his_103 : decode cX7_his 103 = .ok (.aload_n 0, 1) := by decide +kernel
theorem dX7_his_104 : decode cX7_his 104 = .ok (.aload_n 0, 1) := by decide +kernel
theorem dX7_his_105 : decode cX7_his 105 = .ok (.getfield 38, 3) := by decide +kernel
theorem dX7_his_108 : decode cX7_his 108 = .ok (.iload 5, 2) := by decide +kernel
theorem dX7_his_110 : decode cX7_his 110 = .ok (.iaload, 1) := by decide +kernel
theorem dX7_his_111 : decode cX7_his 111 = .ok (.iload_n 2, 1) := by decide +kernel
theorem dX7_his_112 : decode cX7_his 112 = .ok (.invokevirtual 175, 3) := by decide +kernel
theorem dX7_his_115 : decode cX7_his 115 = .ok (.istore_n 2, 1) := by decide +kernel
theorem dX7_his_116 : decode cX7_his 116 = .ok (.aload_n 0, 1) := by decide +kernel
theorem dX7_his_117 : decode cX7_his 117 = .ok (.getfield 38, 3) := by decide +kernel
theorem dX7_his_120 : decode cX7_his 120 = .ok (.iload 5, 2) := by decide +kernel
theorem dX7_his_122 : decode cX7_his 122 = .ok (.iaload, 1) := by decide +kernel
theorem dX7_his_123 : decode cX7_his 123 = .ok (.iconst 1, 1) := by decide +kernel
theorem dX7_his_124 : decode cX7_his 124 = .ok (.iadd, 1) := by decide +kernel
theorem dX7_his_125 : decode cX7_his 125 = .ok (.istore_n 3, 1) := by decide +kernel
theorem dX7_his_126 : decode cX7_his 126 = .ok (.iinc 5 1, 3) := by decide +kernel
theorem dX7_his_129 : decode cX7_his 129 = .ok (.goto (-85), 3) := by decide +kernel
theorem dX7_his_132 : decode cX7_his 132 = .ok (.aload_n 0, 1) := by decide +kernel
theorem dX7_his_133 : decode cX7_his 133 = .ok (.iload_n 2, 1) := by decide +kernel
theorem dX7_his_134 : decode cX7_his 134 = .ok (.iload_n 3, 1) := by decide +kernel
theorem dX7_his_135 : decode cX7_his 135 = .ok (.invokevirtual 186, 3) := by decide +kernel
theorem dX7_his_138 : decode cX7_his 138 = .ok (.istore 6, 2) := by decide +kernel
theorem dX7_his_140 : decode cX7_his 140 = .ok (.iload_n 1, 1) := by decide +kernel
theorem dX7_his_141 : decode cX7_his 141 = .ok (.iconst 1, 1) := by decide +kernel
theorem dX7_his_142 : decode cX7_his 142 = .ok (.if_icmp .ne 8, 3) := by decide +kernel
theorem dX7_his_145 : decode cX7_his 145 = .ok (.iload 5, 2) := by decide +kernel
theorem dX7_his_147 : decode cX7_his 147 = .ok (.goto 20, 3) := by decide +kernel
theorem dX7_his_150 : decode cX7_his 150 = .ok (.iload 6, 2) := by decide +kernel
theorem dX7_his_152 : decode cX7_his 152 = .ok (.ldc 181, 2) := by decide +kernel
theorem dX7_his_154 : decode cX7_his 154 = .ok (.if_icmp .ne 8, 3) := by decide +kernel
theorem dX7_his_157 : decode cX7_his 157 = .ok (.bipush (-9), 2) := by decide +kernel
theorem dX7_his_159 : decode cX7_his 159 = .ok (.goto 8, 3) := by decide +kernel
theorem dX7_his_162 : decode cX7_his 162 = .ok (.iload 4, 2) := by decide +kernel
theorem dX7_his_164 : decode cX7_his 164 = .ok (.iload 6, 2) := by decide +kernel
theorem dX7_his_166 : decode cX7_his 166 = .ok (.iadd, 1) := by decide +kernel
theorem dX7_his_167 : decode cX7_his 167 = .ok (.ireturn, 1) := by decide +kernel
theorem dX7_cars_0 : decode cX7_cars 0 = .ok (.aload_n 0, 1) := by decide +kernel
theorem dX7_cars_1 : decode cX7_cars 1 = .ok (.iconst 0, 1) := by decide +kernel
theorem dX7_cars_2 : decode cX7_cars 2 = .ok (.putfield 69, 3) := by decide +kernel
theorem dX7_cars_5 : decode cX7_cars 5 = .ok (.iload_n 1, 1) := by decide +kernel
theorem dX7_cars_6 : decode cX7_cars 6 = .ok (.iconst 0, 1) := by decide +kernel
theorem dX7_cars_7 : decode cX7_cars 7 = .ok (.bipush 20, 2) := by decide +kernel
theorem dX7_cars_9 : decode cX7_cars 9 = .ok (.invokestatic 73, 3) := by decide +kernel
theorem dX7_cars_12 : decode cX7_cars 12 = .ok (.ifCond .eq 12, 3) := by decide +kernel
theorem dX7_cars_15 : decode cX7_cars 15 = .ok (.iload_n 2, 1) := by decide +kernel
theorem dX7_cars_16 : decode cX7_cars 16 = .ok (.iconst 0, 1) := by decide +kernel
theorem dX7_cars_17 : decode cX7_cars 17 = .ok (.iconst 1, 1) := by decide +kernel
theorem dX7_cars_18 : decode cX7_cars 18 = .ok (.invokestatic 73, 3) := by decide +kernel
theorem dX7_cars_21 : decode cX7_cars 21 = .ok (.ifCond .ne 5, 3) := by decide +kernel
theorem dX7_cars_24 : decode cX7_cars 24 = .ok (.iconst (-1), 1) := by decide +kernel
theorem dX7_cars_25 : decode cX7_cars 25 = .ok (.ireturn, 1) := by decide +kernel
theorem dX7_cars_26 : decode cX7_cars 26 = .ok (.aload_n 0, 1) := by decide +kernel
theorem dX7_cars_27 : decode cX7_cars 27 = .ok (.invokevirtual 166, 3) := by decide +kernel
theorem dX7_cars_30 : decode cX7_cars 30 = .ok (.aload_n 0, 1) := by decide +kernel
theorem dX7_cars_31 : decode cX7_cars 31 = .ok (.invokevirtual 195, 3) := by decide +kernel
theorem dX7_cars_34 : decode cX7_cars 34 = .ok (.aload_n 0, 1) := by decide +kernel
theorem dX7_cars_35 : decode cX7_cars 35 = .ok (.aload_n 0, 1) := by decide +kernel
theorem dX7_cars_36 : decode cX7_cars 36 = .ok (.getfield 13, 3) := by decide +kernel
theorem dX7_cars_39 : decode cX7_cars 39 = .ok (.iconst 2, 1) := by decide +kernel
theorem dX7_cars_40 : decode cX7_cars 40 = .ok (.iaload, 1) := by decide +kernel
theorem dX7_cars_41 : decode cX7_cars 41 = .ok (.iconst 0, 1) := by decide +kernel
theorem dX7_cars_42 : decode cX7_cars 42 = .ok (.invokevirtual 186, 3) := by decide +kernel
theorem dX7_cars_45 : decode cX7_cars 45 = .ok (.istore_n 3, 1) := by decide +kernel
theorem dX7_cars_46 : decode cX7_cars 46 = .ok (.iload_n 3, 1) := by decide +kernel
theorem dX7_cars_47 : decode cX7_cars 47 = .ok (.ldc 181, 2) := by decide +kernel
theorem dX7_cars_49 : decode cX7_cars 49 = .ok (.if_icmp .ne 6, 3) := by decide +kernel
theorem dX7_cars_52 : decode cX7_cars 52 = .ok (.bipush (-9), 2) := by decide +kernel
theorem dX7_cars_54 : decode cX7_cars 54 = .ok (.ireturn, 1) := by decide +kernel
theorem dX7_cars_55 : decode cX7_cars 55 = .ok (.iload_n 2, 1) := by decide +kernel
theorem dX7_cars_56 : decode cX7_cars 56 = .ok (.iconst 1, 1) := by decide +kernel
theorem dX7_cars_57 : decode cX7_cars 57 = .ok (.if_icmp .ne 74, 3) := by decide +kernel
theorem dX7_cars_60 : decode cX7_cars 60 = .ok (.aload_n 0, 1) := by decide +kernel
theorem dX7_cars_61 : decode cX7_cars 61 = .ok (.aload_n 0, 1) := by decide +kernel
theorem dX7_cars_62 : decode cX7_cars 62 = .ok (.getfield 13, 3) := by decide +kernel
theorem dX7_cars_65 : decode cX7_cars 65 = .ok (.iconst 2, 1) := by decide +kernel
theorem dX7_cars_66 : decode cX7_cars 66 = .ok (.iaload, 1) := by decide +kernel
theorem dX7_cars_67 : decode cX7_cars 67 = .ok (.iconst 0, 1) := by decide +kernel
theorem dX7_cars_68 : decode cX7_cars 68 = .ok (.ldc 181, 2) := by decide +kernel
theorem dX7_cars_70 : decode cX7_cars 70 = .ok (.invokevirtual 198, 3) := by decide +kernel
theorem dX7_cars_73 : decode cX7_cars 73 = .ok (.pop, 1) := by decide +kernel
theorem dX7_cars_74 : decode cX7_cars 74 = .ok (.iconst 0, 1) := by decide +kernel
theorem dX7_cars_75 : decode cX7_cars 75 = .ok (.istore 4, 2) := by decide +kernel
theorem dX7_cars_77 : decode cX7_cars 77 = .ok (.iconst 0, 1) := by decide +kernel
theorem dX7_cars_78 : decode cX7_cars 78 = .ok (.istore 5, 2) := by decide +kernel
theorem dX7_cars_80 : decode cX7_cars 80 = .ok (.iload 5, 2) := by decide +kernel
theorem dX7_cars_82 : decode cX7_cars 82 = .ok (.bipush 12, 2) := by decide +kernel
theorem dX7_cars_84 : decode cX7_cars 84 = .ok (.if_icmp .ge 40, 3) := by decide +kernel
theorem dX7_cars_87 : decode cX7_cars 87 = .ok (.iload 4, 2) := by decide +kernel
theorem dX7_cars_89 : decode cX7_cars 89 = .ok (.aload_n 0, 1) := by decide +kernel
theorem dX7_cars_90 : decode cX7_cars 90 = .ok (.getfield 53, 3) := by decide +kernel
theorem dX7_cars_93 : decode cX7_cars 93 = .ok (.iload 5, 2) := by decide +kernel
theorem dX7_cars_95 : decode cX7_cars 95 = .ok (.iaload, 1) := by decide +kernel
theorem dX7_cars_96 : decode cX7_cars 96 = .ok (.aload_n 0, 1) := by decide +kernel
theorem dX7_cars_97 : decode cX7_cars 97 = .ok (.getfield 53, 3) := by decide +kernel
theorem dX7_cars_100 : decode cX7_cars 100 = .ok (.iload 5, 2) := by decide +kernel
theorem dX7_cars_102 : decode cX7_cars 102 = .ok (.iaload, 1) := by decide +kernel
theorem dX7_cars_103 : decode cX7_cars 103 = .ok (.imul, 1) := by decide +kernel
theorem dX7_cars_104 : decode cX7_cars 104 = .ok (.aload_n 0, 1) := by decide +kernel
theorem dX7_cars_105 : decode cX7_cars 105 = .ok (.getfield 13, 3) := by decide +kernel
theorem dX7_cars_108 : decode cX7_cars 108 = .ok (.iconst 5, 1) := by decide +kernel
theorem dX7_cars_109 : decode cX7_cars 109 = .ok (.iaload, 1) := by decide +kernel
theorem dX7_cars_110 : decode cX7_cars 110 = .ok (.imul, 1) := by decide +kernel
theorem dX7_cars_111 : decode cX7_cars 111 = .ok (.iload_n 1, 1) := by decide +kernel
theorem dX7_cars_112 : decode cX7_cars 112 = .ok (.iconst 1, 1) := by decide +kernel
theorem dX7_cars_113 : decode cX7_cars 113 = .ok (.isub, 1) := by decide +kernel
theorem dX7_cars_114 : decode cX7_cars 114 = .ok (.imul, 1) := by decide +kernel
theorem dX7_cars_115 : decode cX7_cars 115 = .ok (.iadd, 1) := by decide +kernel
theorem dX7_cars_116 : decode cX7_cars 116 = .ok (.istore 4, 2) := by decide +kernel
theorem dX7_cars_118 : decode cX7_cars 118 = .ok (.iinc 5 1, 3) := by decide +kernel
theorem dX7_cars_121 : decode cX7_cars 121 = .ok (.goto (-41), 3) := by decide +kernel
theorem dX7_cars_124 : decode cX7_cars 124 = .ok (.iload_n 1, 1) := by decide +kernel
theorem dX7_cars_125 : decode cX7_cars 125 = .ok (.iload_n 3, 1) := by decide +kernel
theorem dX7_cars_126 : decode cX7_cars 126 = .ok (.iload 4, 2) := by decide +kernel
theorem dX7_cars_128 : decode cX7_cars 128 = .ok (.iadd, 1) := by decide +kernel
theorem dX7_cars_129 : decode cX7_cars 129 = .ok (.imul, 1) := by decide +kernel
theorem dX7_cars_130 : decode cX7_cars 130 = .ok (.ireturn, 1) := by decide +kernel
theorem dX7_cars_131 : decode cX7_cars 131 = .ok (.iconst 0, 1) := by decide +kernel
theorem dX7_cars_132 : decode cX7_cars 132 = .ok (.istore 4, 2) := by decide +kernel
theorem dX7_cars_134 : decode cX7_cars 134 = .ok (.iconst 0, 1) := by decide +kernel
theorem dX7_cars_135 : decode cX7_cars 135 = .ok (.istore 5, 2) := by decide +kernel
theorem dX7_cars_137 : decode cX7_cars 137 = .ok (.iload 5, 2) := by decide +kernel
theorem dX7_cars_139 : decode cX7_cars 139 = .ok (.iload_n 1, 1) := by decide +kernel
theorem dX7_cars_140 : decode cX7_cars 140 = .ok (.if_icmp .ge 87, 3) := by decide +kernel
theorem dX7_cars_143 : decode cX7_cars 143 = .ok (.iload 4, 2) := by decide +kernel
theorem dX7_cars_145 : decode cX7_cars 145 = .ok (.aload_n 0, 1) := by decide +kernel
theorem dX7_cars_146 : decode cX7_cars 146 = .ok (.aload_n 0, 1) := by decide +kernel
theorem dX7_cars_147 : decode cX7_cars 147 = .ok (.getfield 13, 3) := by decide +kernel
theorem dX7_cars_150 : decode cX7_cars 150 = .ok (.iconst 2, 1) := by decide +kernel
theorem dX7_cars_151 : decode cX7_cars 151 = .ok (.iaload, 1) := by decide +kernel
theorem dX7_cars_152 : decode cX7_cars 152 = .ok (.iconst 0, 1) := by decide +kernel
theorem dX7_cars_153 : decode cX7_cars 153 = .ok (.invokevirtual 186, 3) := by decide +kernel
theorem dX7_cars_156 : decode cX7_cars 156 = .ok (.iadd, 1) := by decide +kernel
theorem dX7_cars_157 : decode cX7_cars 157 = .ok (.istore 4, 2) := by decide +kernel
theorem dX7_cars_159 : decode cX7_cars 159 = .ok (.aload_n 0, 1) := by decide +kernel
theorem dX7_cars_160 : decode cX7_cars 160 = .ok (.aload_n 0, 1) := by decide +kernel
theorem dX7_cars_161 : decode cX7_cars 161 = .ok (.getfield 13, 3) := by decide +kernel
theorem dX7_cars_164 : decode cX7_cars 164 = .ok (.iconst 2, 1) := by decide +kernel
theorem dX7_cars_165 : decode cX7_cars 165 = .ok (.iaload, 1) := by decide +kernel
theorem dX7_cars_166 : decode cX7_cars 166 = .ok (.iconst 0, 1) := by decide +kernel
theorem dX7_cars_167 : decode cX7_cars 167 = .ok (.ldc 181, 2) := by decide +kernel
theorem dX7_cars_169 : decode cX7_cars 169 = .ok (.invokevirtual 198, 3) := by decide +kernel
theorem dX7_cars_172 : decode cX7_cars 172 = .ok (.pop, 1) := by decide +kernel
theorem dX7_cars_173 : decode cX7_cars 173 = .ok (.iconst 0, 1) := by decide +kernel
theorem dX7_cars_174 : decode cX7_cars 174 = .ok (.istore 6, 2) := by decide +kernel
theorem dX7_cars_176 : decode cX7_cars 176 = .ok (.iload 6, 2) := by decide +kernel
theorem dX7_cars_178 : decode cX7_cars 178 = .ok (.aload_n 0, 1) := by decide +kernel
theorem dX7_cars_179 : decode cX7_cars 179 = .ok (.getfield 13, 3) := by decide +kernel
theorem dX7_cars_182 : decode cX7_cars 182 = .ok (.iconst 1, 1) := by decide +kernel
theorem dX7_cars_183 : decode cX7_cars 183 = .ok (.iaload, 1) := by decide +kernel
theorem dX7_cars_184 : decode cX7_cars 184 = .ok (.if_icmp .ge 33, 3) := by decide +kernel
theorem dX7_cars_187 : decode cX7_cars 187 = .ok (.aload_n 0, 1) := by decide +kernel
theorem dX7_cars_188 : decode cX7_cars 188 = .ok (.getfield 47, 3) := by decide +kernel
theorem dX7_cars_191 : decode cX7_cars 191 = .ok (.iload 6, 2) := by decide +kernel
theorem dX7_cars_193 : decode cX7_cars 193 = .ok (.dup2, 1) := by decide +kernel
theorem dX7_cars_194 : decode cX7_cars 194 = .ok (.iaload, 1) := by decide +kernel
theorem dX7_cars_195 : decode cX7_cars 195 = .ok (.aload_n 0, 1) := by decide +kernel
theorem dX7_cars_196 : decode cX7_cars 196 = .ok (.getfield 53, 3) := by decide +kernel
theorem dX7_cars_199 : decode cX7_cars 199 = .ok (.iload 6, 2) := by decide +kernel
theorem dX7_cars_201 : decode cX7_cars 201 = .ok (.iaload, 1) := by decide +kernel
theorem dX7_cars_202 : decode cX7_cars 202 = .ok (.aload_n 0, 1) := by decide +kernel
theorem dX7_cars_203 : decode cX7_cars 203 = .ok (.getfield 13, 3) := by decide +kernel
theorem dX7_cars_206 : decode cX7_cars 206 = .ok (.iconst 5, 1) := by decide +kernel
theorem dX7_cars_207 : decode cX7_cars 207 = .ok (.iaload, 1) := by decide +kernel
theorem dX7_cars_208 : decode cX7_cars 208 = .ok (.imul, 1) := by decide +kernel
theorem dX7_cars_209 : decode cX7_cars 209 = .ok (.iadd, 1) := by decide +kernel
theorem dX7_cars_210 : decode cX7_cars 210 = .ok (.iastore, 1) := by decide +kernel
theorem dX7_cars_211 : decode cX7_cars 211 = .ok (.iinc 6 1, 3) := by decide +kernel
theorem dX7_cars_214 : decode cX7_cars 214 = .ok (.goto (-38), 3) := by decide +kernel
theorem dX7_cars_217 : decode cX7_cars 217 = .ok (.aload_n 0, 1) := by decide +kernel
theorem dX7_cars_218 : decode cX7_cars 218 = .ok (.invokevirtual 195, 3) := by decide +kernel
theorem dX7_cars_221 : decode cX7_cars 221 = .ok (.iinc 5 1, 3) := by decide +kernel
theorem dX7_cars_224 : decode cX7_cars 224 = .ok (.goto (-87), 3) := by decide +kernel
theorem dX7_cars_227 : decode cX7_cars 227 = .ok (.iload 4, 2) := by decide +kernel
theorem dX7_cars_229 : decode cX7_cars 229 = .ok (.ireturn, 1) := by decide +kernel
theorem dX7_stepped_0 : decode cX7_stepped 0 = .ok (.iconst 0, 1) := by decide +kernel
theorem dX7_stepped_1 : decode cX7_stepped 1 = .ok (.istore_n 2, 1) := by decide +kernel
theorem dX7_stepped_2 : decode cX7_stepped 2 = .ok (.iconst 0, 1) := by decide +kernel
theorem dX7_stepped_3 : decode cX7_stepped 3 = .ok (.istore_n 3, 1) := by decide +kernel
theorem dX7_stepped_4 : decode cX7_stepped 4 = .ok (.iload_n 3, 1) := by decide +kernel
theorem dX7_stepped_5 : decode cX7_stepped 5 = .ok (.aload_n 0, 1) := by decide +kernel
theorem dX7_stepped_6 : decode cX7_stepped 6 = .ok (.getfield 13, 3) := by decide +kernel
theorem dX7_stepped_9 : decode cX7_stepped 9 = .ok (.iconst 1, 1) := by decide +kernel
theorem dX7_stepped_10 : decode cX7_stepped 10 = .ok (.iaload, 1) := by decide +kernel
theorem dX7_stepped_11 : decode cX7_stepped 11 = .ok (.if_icmp .ge 73, 3) := by decide +kernel
theorem dX7_stepped_14 : decode cX7_stepped 14 = .ok (.aload_n 0, 1) := by decide +kernel
theorem dX7_stepped_15 : decode cX7_stepped 15 = .ok (.invokevirtual 153, 3) := by decide +kernel
theorem dX7_stepped_18 : decode cX7_stepped 18 = .ok (.iload_n 3, 1) := by decide +kernel
theorem dX7_stepped_19 : decode cX7_stepped 19 = .ok (.ishr, 1) := by decide +kernel
theorem dX7_stepped_20 : decode cX7_stepped 20 = .ok (.iconst 1, 1) := by decide +kernel
theorem dX7_stepped_21 : decode cX7_stepped 21 = .ok (.iand, 1) := by decide +kernel
theorem dX7_stepped_22 : decode cX7_stepped 22 = .ok (.iconst 1, 1) := by decide +kernel
theorem dX7_stepped_23 : decode cX7_stepped 23 = .ok (.if_icmp .ne 55, 3) := by decide +kernel
theorem dX7_stepped_26 : decode cX7_stepped 26 = .ok (.iload_n 2, 1) := by decide +kernel
theorem dX7_stepped_27 : decode cX7_stepped 27 = .ok (.iload_n 1, 1) := by decide +kernel
theorem dX7_stepped_28 : decode cX7_stepped 28 = .ok (.aload_n 0, 1) := by decide +kernel
theorem dX7_stepped_29 : decode cX7_stepped 29 = .ok (.getfield 16, 3) := by decide +kernel
theorem dX7_stepped_32 : decode cX7_stepped 32 = .ok (.iconst 2, 1) := by decide +kernel
theorem dX7_stepped_33 : decode cX7_stepped 33 = .ok (.iload_n 3, 1) := by decide +kernel
theorem dX7_stepped_34 : decode cX7_stepped 34 = .ok (.imul, 1) := by decide +kernel
theorem dX7_stepped_35 : decode cX7_stepped 35 = .ok (.iaload, 1) := by decide +kernel
theorem dX7_stepped_36 : decode cX7_stepped 36 = .ok (.ishr, 1) := by decide +kernel
theorem dX7_stepped_37 : decode cX7_stepped 37 = .ok (.iconst 1, 1) := by decide +kernel
theorem dX7_stepped_38 : decode cX7_stepped 38 = .ok (.iand, 1) := by decide +kernel
theorem dX7_stepped_39 : decode cX7_stepped 39 = .ok (.aload_n 0, 1) := by decide +kernel
theorem dX7_stepped_40 : decode cX7_stepped 40 = .ok (.getfield 16, 3) := by decide +kernel
theorem dX7_stepped_43 : decode cX7_stepped 43 = .ok (.iconst 2, 1) := by decide +kernel
theorem dX7_stepped_44 : decode cX7_stepped 44 = .ok (.iload_n 3, 1) := by decide +kernel
theorem dX7_stepped_45 : decode cX7_stepped 45 = .ok (.imul, 1) := by decide +kernel
theorem dX7_stepped_46 : decode cX7_stepped 46 = .ok (.iconst 1, 1) := by decide +kernel
theorem dX7_stepped_47 : decode cX7_stepped 47 = .ok (.iadd, 1) := by decide +kernel
theorem dX7_stepped_48 : decode cX7_stepped 48 = .ok (.iaload, 1) := by decide +kernel
theorem dX7_stepped_49 : decode cX7_stepped 49 = .ok (.ishl, 1) := by decide +kernel
theorem dX7_stepped_50 : decode cX7_stepped 50 = .ok (.ior, 1) := by decide +kernel
theorem dX7_stepped_51 : decode cX7_stepped 51 = .ok (.istore_n 2, 1) := by decide +kernel
theorem dX7_stepped_52 : decode cX7_stepped 52 = .ok (.iload_n 2, 1) := by decide +kernel
theorem dX7_stepped_53 : decode cX7_stepped 53 = .ok (.iload_n 1, 1) := by decide +kernel
theorem dX7_stepped_54 : decode cX7_stepped 54 = .ok (.aload_n 0, 1) := by decide +kernel
theorem dX7_stepped_55 : decode cX7_stepped 55 = .ok (.getfield 16, 3) := by decide +kernel
theorem dX7_stepped_58 : decode cX7_stepped 58 = .ok (.iconst 2, 1) := by decide +kernel
theorem dX7_stepped_59 : decode cX7_stepped 59 = .ok (.iload_n 3, 1) := by decide +kernel
theorem dX7_stepped_60 : decode cX7_stepped 60 = .ok (.imul, 1) := by decide +kernel
theorem dX7_stepped_61 : decode cX7_stepped 61 = .ok (.iconst 1, 1) := by decide +kernel
theorem dX7_stepped_62 : decode cX7_stepped 62 = .ok (.iadd, 1) := by decide +kernel
theorem dX7_stepped_63 : decode cX7_stepped 63 = .ok (.iaload, 1) := by decide +kernel
theorem dX7_stepped_64 : decode cX7_stepped 64 = .ok (.ishr, 1) := by decide +kernel
theorem dX7_stepped_65 : decode cX7_stepped 65 = .ok (.iconst 1, 1) := by decide +kernel
theorem dX7_stepped_66 : decode cX7_stepped 66 = .ok (.iand, 1) := by decide +kernel
theorem dX7_stepped_67 : decode cX7_stepped 67 = .ok (.aload_n 0, 1) := by decide +kernel
theorem dX7_stepped_68 : decode cX7_stepped 68 = .ok (.getfield 16, 3) := by decide +kernel
theorem dX7_stepped_71 : decode cX7_stepped 71 = .ok (.iconst 2, 1) := by decide +kernel
theorem dX7_stepped_72 : decode cX7_stepped 72 = .ok (.iload_n 3, 1) := by decide +kernel
theorem dX7_stepped_73 : decode cX7_stepped 73 = .ok (.imul, 1) := by decide +kernel
theorem dX7_stepped_74 : decode cX7_stepped 74 = .ok (.iaload, 1) := by decide +kernel
theorem dX7_stepped_75 : decode cX7_stepped 75 = .ok (.ishl, 1) := by decide +kernel
theorem dX7_stepped_76 : decode cX7_stepped 76 = .ok (.ior, 1) := by decide +kernel
theorem dX7_stepped_77 : decode cX7_stepped 77 = .ok (.istore_n 2, 1) := by decide +kernel
theorem dX7_stepped_78 : decode cX7_stepped 78 = .ok (.iinc 3 1, 3) := by decide +kernel
theorem dX7_stepped_81 : decode cX7_stepped 81 = .ok (.goto (-77), 3) := by decide +kernel
theorem dX7_stepped_84 : decode cX7_stepped 84 = .ok (.iload_n 2, 1) := by decide +kernel
theorem dX7_stepped_85 : decode cX7_stepped 85 = .ok (.ireturn, 1) := by decide +kernel
theorem dX7_whereBehind_0 : decode cX7_whereBehind 0 = .ok (.iconst 1, 1) := by decide +kernel
theorem dX7_whereBehind_1 : decode cX7_whereBehind 1 = .ok (.aload_n 0, 1) := by decide +kernel
theorem dX7_whereBehind_2 : decode cX7_whereBehind 2 = .ok (.getfield 25, 3) := by decide +kernel
theorem dX7_whereBehind_5 : decode cX7_whereBehind 5 = .ok (.iconst 0, 1) := by decide +kernel
theorem dX7_whereBehind_6 : decode cX7_whereBehind 6 = .ok (.iaload, 1) := by decide +kernel
theorem dX7_whereBehind_7 : decode cX7_whereBehind 7 = .ok (.ishl, 1) := by decide +kernel
theorem dX7_whereBehind_8 : decode cX7_whereBehind 8 = .ok (.istore_n 3, 1) := by decide +kernel
theorem dX7_whereBehind_9 : decode cX7_whereBehind 9 = .ok (.iconst 0, 1) := by decide +kernel
theorem dX7_whereBehind_10 : decode cX7_whereBehind 10 = .ok (.istore 4, 2) := by decide +kernel
theorem dX7_whereBehind_12 : decode cX7_whereBehind 12 = .ok (.iload 4, 2) := by decide +kernel
theorem dX7_whereBehind_14 : decode cX7_whereBehind 14 = .ok (.iload_n 1, 1) := by decide +kernel
theorem dX7_whereBehind_15 : decode cX7_whereBehind 15 = .ok (.if_icmp .gt 74, 3) := by decide +kernel
theorem dX7_whereBehind_18 : decode cX7_whereBehind 18 = .ok (.iload 4, 2) := by decide +kernel
theorem dX7_whereBehind_20 : decode cX7_whereBehind 20 = .ok (.ifCond .ne 7, 3) := by decide +kernel
theorem dX7_whereBehind_23 : decode cX7_whereBehind 23 = .ok (.iload_n 3, 1) := by decide +kernel
theorem dX7_whereBehind_24 : decode cX7_whereBehind 24 = .ok (.goto 8, 3) := by decide +kernel
theorem dX7_whereBehind_27 : decode cX7_whereBehind 27 = .ok (.aload_n 0, 1) := by decide +kernel
theorem dX7_whereBehind_28 : decode cX7_whereBehind 28 = .ok (.iload_n 3, 1) := by decide +kernel
theorem dX7_whereBehind_29 : decode cX7_whereBehind 29 = .ok (.invokevirtual 201, 3) := by decide +kernel
theorem dX7_whereBehind_32 : decode cX7_whereBehind 32 = .ok (.istore_n 3, 1) := by decide +kernel
theorem dX7_whereBehind_33 : decode cX7_whereBehind 33 = .ok (.iconst 0, 1) := by decide +kernel
theorem dX7_whereBehind_34 : decode cX7_whereBehind 34 = .ok (.istore 5, 2) := by decide +kernel
theorem dX7_whereBehind_36 : decode cX7_whereBehind 36 = .ok (.iload 5, 2) := by decide +kernel
theorem dX7_whereBehind_38 : decode cX7_whereBehind 38 = .ok (.aload_n 0, 1) := by decide +kernel
theorem dX7_whereBehind_39 : decode cX7_whereBehind 39 = .ok (.getfield 137, 3) := by decide +kernel
theorem dX7_whereBehind_42 : decode cX7_whereBehind 42 = .ok (.if_icmp .ge 41, 3) := by decide +kernel
theorem dX7_whereBehind_45 : decode cX7_whereBehind 45 = .ok (.iload_n 2, 1) := by decide +kernel
theorem dX7_whereBehind_46 : decode cX7_whereBehind 46 = .ok (.ifCond .eq 29, 3) := by decide +kernel
theorem dX7_whereBehind_49 : decode cX7_whereBehind 49 = .ok (.aload_n 0, 1) := by decide +kernel
theorem dX7_whereBehind_50 : decode cX7_whereBehind 50 = .ok (.getfield 41, 3) := by decide +kernel
theorem dX7_whereBehind_53 : decode cX7_whereBehind 53 = .ok (.iload 5, 2) := by decide +kernel
theorem dX7_whereBehind_55 : decode cX7_whereBehind 55 = .ok (.iaload, 1) := by decide +kernel
theorem dX7_whereBehind_56 : decode cX7_whereBehind 56 = .ok (.iload 4, 2) := by decide +kernel
theorem dX7_whereBehind_58 : decode cX7_whereBehind 58 = .ok (.if_icmp .ne 17, 3) := by decide +kernel
theorem dX7_whereBehind_61 : decode cX7_whereBehind 61 = .ok (.iload_n 3, 1) := by decide +kernel
theorem dX7_whereBehind_62 : decode cX7_whereBehind 62 = .ok (.iconst 1, 1) := by decide +kernel
theorem dX7_whereBehind_63 : decode cX7_whereBehind 63 = .ok (.aload_n 0, 1) := by decide +kernel
theorem dX7_whereBehind_64 : decode cX7_whereBehind 64 = .ok (.getfield 44, 3) := by decide +kernel
theorem dX7_whereBehind_67 : decode cX7_whereBehind 67 = .ok (.iload 5, 2) := by decide +kernel
theorem dX7_whereBehind_69 : decode cX7_whereBehind 69 = .ok (.iaload, 1) := by decide +kernel
theorem dX7_whereBehind_70 : decode cX7_whereBehind 70 = .ok (.ishl, 1) := by decide +kernel
theorem dX7_whereBehind_71 : decode cX7_whereBehind 71 = .ok (.iand, 1) := by decide +kernel
theorem dX7_whereBehind_72 : decode cX7_whereBehind 72 = .ok (.goto 4, 3) := by decide +kernel
theorem dX7_whereBehind_75 : decode cX7_whereBehind 75 = .ok (.iload_n 3, 1) := by decide +kernel
theorem dX7_whereBehind_76 : decode cX7_whereBehind 76 = .ok (.istore_n 3, 1) := by decide +kernel
theorem dX7_whereBehind_77 : decode cX7_whereBehind 77 = .ok (.iinc 5 1, 3) := by decide +kernel
theorem dX7_whereBehind_80 : decode cX7_whereBehind 80 = .ok (.goto (-44), 3) := by decide +kernel
theorem dX7_whereBehind_83 : decode cX7_whereBehind 83 = .ok (.iinc 4 1, 3) := by decide +kernel
theorem dX7_whereBehind_86 : decode cX7_whereBehind 86 = .ok (.goto (-74), 3) := by decide +kernel
theorem dX7_whereBehind_89 : decode cX7_whereBehind 89 = .ok (.iload_n 3, 1) := by decide +kernel
theorem dX7_whereBehind_90 : decode cX7_whereBehind 90 = .ok (.ireturn, 1) := by decide +kernel
theorem dX7_tunnel_0 : decode cX7_tunnel 0 = .ok (.aload_n 0, 1) := by decide +kernel
theorem dX7_tunnel_1 : decode cX7_tunnel 1 = .ok (.iconst 0, 1) := by decide +kernel
theorem dX7_tunnel_2 : decode cX7_tunnel 2 = .ok (.putfield 69, 3) := by decide +kernel
theorem dX7_tunnel_5 : decode cX7_tunnel 5 = .ok (.iload_n 1, 1) := by decide +kernel
theorem dX7_tunnel_6 : decode cX7_tunnel 6 = .ok (.iconst 0, 1) := by decide +kernel
theorem dX7_tunnel_7 : decode cX7_tunnel 7 = .ok (.bipush 8, 2) := by decide +kernel
theorem dX7_tunnel_9 : decode cX7_tunnel 9 = .ok (.invokestatic 73, 3) := by decide +kernel
theorem dX7_tunnel_12 : decode cX7_tunnel 12 = .ok (.ifCond .eq 12, 3) := by decide +kernel
theorem dX7_tunnel_15 : decode cX7_tunnel 15 = .ok (.aload_n 0, 1) := by decide +kernel
theorem dX7_tunnel_16 : decode cX7_tunnel 16 = .ok (.iload_n 1, 1) := by decide +kernel
theorem dX7_tunnel_17 : decode cX7_tunnel 17 = .ok (.iconst 0, 1) := by decide +kernel
theorem dX7_tunnel_18 : decode cX7_tunnel 18 = .ok (.invokevirtual 204, 3) := by decide +kernel
theorem dX7_tunnel_21 : decode cX7_tunnel 21 = .ok (.goto 4, 3) := by decide +kernel
theorem dX7_tunnel_24 : decode cX7_tunnel 24 = .ok (.iconst (-1), 1) := by decide +kernel
theorem dX7_tunnel_25 : decode cX7_tunnel 25 = .ok (.ireturn, 1) := by decide +kernel
theorem dX7_saw_0 : decode cX7_saw 0 = .ok (.aload_n 0, 1) := by decide +kernel
theorem dX7_saw_1 : decode cX7_saw 1 = .ok (.iconst 0, 1) := by decide +kernel
theorem dX7_saw_2 : decode cX7_saw 2 = .ok (.putfield 69, 3) := by decide +kernel
theorem dX7_saw_5 : decode cX7_saw 5 = .ok (.iload_n 1, 1) := by decide +kernel
theorem dX7_saw_6 : decode cX7_saw 6 = .ok (.iconst 0, 1) := by decide +kernel
theorem dX7_saw_7 : decode cX7_saw 7 = .ok (.bipush 8, 2) := by decide +kernel
theorem dX7_saw_9 : decode cX7_saw 9 = .ok (.invokestatic 73, 3) := by decide +kernel
theorem dX7_saw_12 : decode cX7_saw 12 = .ok (.ifCond .eq 11, 3) := by decide +kernel
theorem dX7_saw_15 : decode cX7_saw 15 = .ok (.aload_n 0, 1) := by decide +kernel
theorem dX7_saw_16 : decode cX7_saw 16 = .ok (.iload_n 2, 1) := by decide +kernel
theorem dX7_saw_17 : decode cX7_saw 17 = .ok (.invokevirtual 150, 3) := by decide +kernel
theorem dX7_saw_20 : decode cX7_saw 20 = .ok (.ifCond .ne 5, 3) := by decide +kernel
theorem dX7_saw_23 : decode cX7_saw 23 = .ok (.iconst (-1), 1) := by decide +kernel
theorem dX7_saw_24 : decode cX7_saw 24 = .ok (.ireturn, 1) := by decide +kernel
theorem dX7_saw_25 : decode cX7_saw 25 = .ok (.aload_n 0, 1) := by decide +kernel
theorem dX7_saw_26 : decode cX7_saw 26 = .ok (.getfield 137, 3) := by decide +kernel
theorem dX7_saw_29 : decode cX7_saw 29 = .ok (.iconst 5, 1) := by decide +kernel
theorem dX7_saw_30 : decode cX7_saw 30 = .ok (.if_icmp .ne 6, 3) := by decide +kernel
theorem dX7_saw_33 : decode cX7_saw 33 = .ok (.bipush (-3), 2) := by decide +kernel
theorem dX7_saw_35 : decode cX7_saw 35 = .ok (.ireturn, 1) := by decide +kernel
theorem dX7_saw_36 : decode cX7_saw 36 = .ok (.aload_n 0, 1) := by decide +kernel
theorem dX7_saw_37 : decode cX7_saw 37 = .ok (.getfield 41, 3) := by decide +kernel
theorem dX7_saw_40 : decode cX7_saw 40 = .ok (.aload_n 0, 1) := by decide +kernel
theorem dX7_saw_41 : decode cX7_saw 41 = .ok (.getfield 137, 3) := by decide +kernel
theorem dX7_saw_44 : decode cX7_saw 44 = .ok (.iload_n 1, 1) := by decide +kernel
theorem dX7_saw_45 : decode cX7_saw 45 = .ok (.iastore, 1) := by decide +kernel
theorem dX7_saw_46 : decode cX7_saw 46 = .ok (.aload_n 0, 1) := by decide +kernel
theorem dX7_saw_47 : decode cX7_saw 47 = .ok (.getfield 44, 3) := by decide +kernel
theorem dX7_saw_50 : decode cX7_saw 50 = .ok (.aload_n 0, 1) := by decide +kernel
theorem dX7_saw_51 : decode cX7_saw 51 = .ok (.getfield 137, 3) := by decide +kernel
theorem dX7_saw_54 : decode cX7_saw 54 = .ok (.iload_n 2, 1) := by decide +kernel
theorem dX7_saw_55 : decode cX7_saw 55 = .ok (.iastore, 1) := by decide +kernel
theorem dX7_saw_56 : decode cX7_saw 56 = .ok (.aload_n 0, 1) := by decide +kernel
theorem dX7_saw_57 : decode cX7_saw 57 = .ok (.dup, 1) := by decide +kernel
theorem dX7_saw_58 : decode cX7_saw 58 = .ok (.getfield 137, 3) := by decide +kernel
theorem dX7_saw_61 : decode cX7_saw 61 = .ok (.iconst 1, 1) := by decide +kernel
theorem dX7_saw_62 : decode cX7_saw 62 = .ok (.iadd, 1) := by decide +kernel
theorem dX7_saw_63 : decode cX7_saw 63 = .ok (.putfield 137, 3) := by decide +kernel
theorem dX7_saw_66 : decode cX7_saw 66 = .ok (.aload_n 0, 1) := by decide +kernel
theorem dX7_saw_67 : decode cX7_saw 67 = .ok (.getfield 137, 3) := by decide +kernel
theorem dX7_saw_70 : decode cX7_saw 70 = .ok (.ireturn, 1) := by decide +kernel
theorem dX7_forget_0 : decode cX7_forget 0 = .ok (.aload_n 0, 1) := by decide +kernel
theorem dX7_forget_1 : decode cX7_forget 1 = .ok (.iconst 0, 1) := by decide +kernel
theorem dX7_forget_2 : decode cX7_forget 2 = .ok (.putfield 69, 3) := by decide +kernel
theorem dX7_forget_5 : decode cX7_forget 5 = .ok (.aload_n 0, 1) := by decide +kernel
theorem dX7_forget_6 : decode cX7_forget 6 = .ok (.getfield 137, 3) := by decide +kernel
theorem dX7_forget_9 : decode cX7_forget 9 = .ok (.istore_n 1, 1) := by decide +kernel
theorem dX7_forget_10 : decode cX7_forget 10 = .ok (.aload_n 0, 1) := by decide +kernel
theorem dX7_forget_11 : decode cX7_forget 11 = .ok (.iconst 0, 1) := by decide +kernel
theorem dX7_forget_12 : decode cX7_forget 12 = .ok (.putfield 137, 3) := by decide +kernel
theorem dX7_forget_15 : decode cX7_forget 15 = .ok (.iload_n 1, 1) := by decide +kernel
theorem dX7_forget_16 : decode cX7_forget 16 = .ok (.ireturn, 1) := by decide +kernel
theorem dX7_where_0 : decode cX7_where 0 = .ok (.aload_n 0, 1) := by decide +kernel
theorem dX7_where_1 : decode cX7_where 1 = .ok (.iconst 0, 1) := by decide +kernel
theorem dX7_where_2 : decode cX7_where 2 = .ok (.putfield 69, 3) := by decide +kernel
theorem dX7_where_5 : decode cX7_where 5 = .ok (.iload_n 1, 1) := by decide +kernel
theorem dX7_where_6 : decode cX7_where 6 = .ok (.iconst 0, 1) := by decide +kernel
theorem dX7_where_7 : decode cX7_where 7 = .ok (.bipush 8, 2) := by decide +kernel
theorem dX7_where_9 : decode cX7_where 9 = .ok (.invokestatic 73, 3) := by decide +kernel
theorem dX7_where_12 : decode cX7_where 12 = .ok (.ifCond .eq 12, 3) := by decide +kernel
theorem dX7_where_15 : decode cX7_where 15 = .ok (.aload_n 0, 1) := by decide +kernel
theorem dX7_where_16 : decode cX7_where 16 = .ok (.iload_n 1, 1) := by decide +kernel
theorem dX7_where_17 : decode cX7_where 17 = .ok (.iconst 1, 1) := by decide +kernel
theorem dX7_where_18 : decode cX7_where 18 = .ok (.invokevirtual 204, 3) := by decide +kernel
theorem dX7_where_21 : decode cX7_where 21 = .ok (.goto 4, 3) := by decide +kernel
theorem dX7_where_24 : decode cX7_where 24 = .ok (.iconst (-1), 1) := by decide +kernel
theorem dX7_where_25 : decode cX7_where 25 = .ok (.ireturn, 1) := by decide +kernel
theorem dX7_which_0 : decode cX7_which 0 = .ok (.aload_n 0, 1) := by decide +kernel
theorem dX7_which_1 : decode cX7_which 1 = .ok (.iconst 0, 1) := by decide +kernel
theorem dX7_which_2 : decode cX7_which 2 = .ok (.putfield 69, 3) := by decide +kernel
theorem dX7_which_5 : decode cX7_which 5 = .ok (.iload_n 1, 1) := by decide +kernel
theorem dX7_which_6 : decode cX7_which 6 = .ok (.iconst 0, 1) := by decide +kernel
theorem dX7_which_7 : decode cX7_which 7 = .ok (.bipush 60, 2) := by decide +kernel
theorem dX7_which_9 : decode cX7_which 9 = .ok (.invokestatic 73, 3) := by decide +kernel
theorem dX7_which_12 : decode cX7_which 12 = .ok (.ifCond .eq 14, 3) := by decide +kernel
theorem dX7_which_15 : decode cX7_which 15 = .ok (.iload_n 2, 1) := by decide +kernel
theorem dX7_which_16 : decode cX7_which 16 = .ok (.iconst 0, 1) := by decide +kernel
theorem dX7_which_17 : decode cX7_which 17 = .ok (.sipush 999, 3) := by decide +kernel
theorem dX7_which_20 : decode cX7_which 20 = .ok (.invokestatic 73, 3) := by decide +kernel
theorem dX7_which_23 : decode cX7_which 23 = .ok (.ifCond .ne 5, 3) := by decide +kernel
theorem dX7_which_26 : decode cX7_which 26 = .ok (.iconst (-1), 1) := by decide +kernel
theorem dX7_which_27 : decode cX7_which 27 = .ok (.ireturn, 1) := by decide +kernel
theorem dX7_which_28 : decode cX7_which 28 = .ok (.iconst 0, 1) := by decide +kernel
theorem dX7_which_29 : decode cX7_which 29 = .ok (.istore_n 3, 1) := by decide +kernel
theorem dX7_which_30 : decode cX7_which 30 = .ok (.iconst 0, 1) := by decide +kernel
theorem dX7_which_31 : decode cX7_which 31 = .ok (.istore 4, 2) := by decide +kernel
theorem dX7_which_33 : decode cX7_which 33 = .ok (.iload 4, 2) := by decide +kernel
theorem dX7_which_35 : decode cX7_which 35 = .ok (.aload_n 0, 1) := by decide +kernel
theorem dX7_which_36 : decode cX7_which 36 = .ok (.getfield 13, 3) := by decide +kernel
theorem dX7_which_39 : decode cX7_which 39 = .ok (.iconst 1, 1) := by decide +kernel
theorem dX7_which_40 : decode cX7_which 40 = .ok (.iaload, 1) := by decide +kernel
theorem dX7_which_41 : decode cX7_which 41 = .ok (.if_icmp .ge 54, 3) := by decide +kernel
theorem dX7_which_44 : decode cX7_which 44 = .ok (.aload_n 0, 1) := by decide +kernel
theorem dX7_which_45 : decode cX7_which 45 = .ok (.invokevirtual 166, 3) := by decide +kernel
theorem dX7_which_48 : decode cX7_which 48 = .ok (.aload_n 0, 1) := by decide +kernel
theorem dX7_which_49 : decode cX7_which 49 = .ok (.getfield 47, 3) := by decide +kernel
theorem dX7_which_52 : decode cX7_which 52 = .ok (.iload 4, 2) := by decide +kernel
theorem dX7_which_54 : decode cX7_which 54 = .ok (.dup2, 1) := by decide +kernel
theorem dX7_which_55 : decode cX7_which 55 = .ok (.iaload, 1) := by decide +kernel
theorem dX7_which_56 : decode cX7_which 56 = .ok (.iload_n 1, 1) := by decide +kernel
theorem dX7_which_57 : decode cX7_which 57 = .ok (.iadd, 1) := by decide +kernel
theorem dX7_which_58 : decode cX7_which 58 = .ok (.iastore, 1) := by decide +kernel
theorem dX7_which_59 : decode cX7_which 59 = .ok (.aload_n 0, 1) := by decide +kernel
theorem dX7_which_60 : decode cX7_which 60 = .ok (.invokevirtual 195, 3) := by decide +kernel
theorem dX7_which_63 : decode cX7_which 63 = .ok (.iload_n 3, 1) := by decide +kernel
theorem dX7_which_64 : decode cX7_which 64 = .ok (.aload_n 0, 1) := by decide +kernel
theorem dX7_which_65 : decode cX7_which 65 = .ok (.aload_n 0, 1) := by decide +kernel
theorem dX7_which_66 : decode cX7_which 66 = .ok (.getfield 13, 3) := by decide +kernel
theorem dX7_which_69 : decode cX7_which 69 = .ok (.iconst 2, 1) := by decide +kernel
theorem dX7_which_70 : decode cX7_which 70 = .ok (.iaload, 1) := by decide +kernel
theorem dX7_which_71 : decode cX7_which 71 = .ok (.iconst 0, 1) := by decide +kernel
theorem dX7_which_72 : decode cX7_which 72 = .ok (.invokevirtual 186, 3) := by decide +kernel
theorem dX7_which_75 : decode cX7_which 75 = .ok (.iload_n 2, 1) := by decide +kernel
theorem dX7_which_76 : decode cX7_which 76 = .ok (.if_icmp .ne 10, 3) := by decide +kernel
theorem dX7_which_79 : decode cX7_which 79 = .ok (.iconst 1, 1) := by decide +kernel
theorem dX7_which_80 : decode cX7_which 80 = .ok (.iload 4, 2) := by decide +kernel
theorem dX7_which_82 : decode cX7_which 82 = .ok (.ishl, 1) := by decide +kernel
theorem dX7_which_83 : decode cX7_which 83 = .ok (.goto 4, 3) := by decide +kernel
theorem dX7_which_86 : decode cX7_which 86 = .ok (.iconst 0, 1) := by decide +kernel
theorem dX7_which_87 : decode cX7_which 87 = .ok (.ior, 1) := by decide +kernel
theorem dX7_which_88 : decode cX7_which 88 = .ok (.istore_n 3, 1) := by decide +kernel
theorem dX7_which_89 : decode cX7_which 89 = .ok (.iinc 4 1, 3) := by decide +kernel
theorem dX7_which_92 : decode cX7_which 92 = .ok (.goto (-59), 3) := by decide +kernel
theorem dX7_which_95 : decode cX7_which 95 = .ok (.iload_n 3, 1) := by decide +kernel
theorem dX7_which_96 : decode cX7_which 96 = .ok (.ireturn, 1) := by decide +kernel
theorem dX7_gcd_0 : decode cX7_gcd 0 = .ok (.lload_n 0, 1) := by decide +kernel
theorem dX7_gcd_1 : decode cX7_gcd 1 = .ok (.lstore 4, 2) := by decide +kernel
theorem dX7_gcd_3 : decode cX7_gcd 3 = .ok (.lload_n 2, 1) := by decide +kernel
theorem dX7_gcd_4 : decode cX7_gcd 4 = .ok (.lstore 6, 2) := by decide +kernel
theorem dX7_gcd_6 : decode cX7_gcd 6 = .ok (.lload 6, 2) := by decide +kernel
theorem dX7_gcd_8 : decode cX7_gcd 8 = .ok (.lconst 0, 1) := by decide +kernel
theorem dX7_gcd_9 : decode cX7_gcd 9 = .ok (.lcmp, 1) := by decide +kernel
theorem dX7_gcd_10 : decode cX7_gcd 10 = .ok (.ifCond .eq 21, 3) := by decide +kernel
theorem dX7_gcd_13 : decode cX7_gcd 13 = .ok (.lload 4, 2) := by decide +kernel
theorem dX7_gcd_15 : decode cX7_gcd 15 = .ok (.lload 6, 2) := by decide +kernel
theorem dX7_gcd_17 : decode cX7_gcd 17 = .ok (.lrem, 1) := by decide +kernel
theorem dX7_gcd_18 : decode cX7_gcd 18 = .ok (.lstore 8, 2) := by decide +kernel
theorem dX7_gcd_20 : decode cX7_gcd 20 = .ok (.lload 6, 2) := by decide +kernel
theorem dX7_gcd_22 : decode cX7_gcd 22 = .ok (.lstore 4, 2) := by decide +kernel
theorem dX7_gcd_24 : decode cX7_gcd 24 = .ok (.lload 8, 2) := by decide +kernel
theorem dX7_gcd_26 : decode cX7_gcd 26 = .ok (.lstore 6, 2) := by decide +kernel
theorem dX7_gcd_28 : decode cX7_gcd 28 = .ok (.goto (-22), 3) := by decide +kernel
theorem dX7_gcd_31 : decode cX7_gcd 31 = .ok (.lload 4, 2) := by decide +kernel
theorem dX7_gcd_33 : decode cX7_gcd 33 = .ok (.lreturn, 1) := by decide +kernel
theorem dX7_odds_0 : decode cX7_odds 0 = .ok (.aload_n 0, 1) := by decide +kernel
theorem dX7_odds_1 : decode cX7_odds 1 = .ok (.iconst 0, 1) := by decide +kernel
theorem dX7_odds_2 : decode cX7_odds 2 = .ok (.putfield 69, 3) := by decide +kernel
theorem dX7_odds_5 : decode cX7_odds 5 = .ok (.aload_n 0, 1) := by decide +kernel
theorem dX7_odds_6 : decode cX7_odds 6 = .ok (.iload_n 1, 1) := by decide +kernel
theorem dX7_odds_7 : decode cX7_odds 7 = .ok (.invokevirtual 150, 3) := by decide +kernel
theorem dX7_odds_10 : decode cX7_odds 10 = .ok (.ifCond .eq 21, 3) := by decide +kernel
theorem dX7_odds_13 : decode cX7_odds 13 = .ok (.iload_n 2, 1) := by decide +kernel
theorem dX7_odds_14 : decode cX7_odds 14 = .ok (.iconst 0, 1) := by decide +kernel
theorem dX7_odds_15 : decode cX7_odds 15 = .ok (.iconst 4, 1) := by decide +kernel
theorem dX7_odds_16 : decode cX7_odds 16 = .ok (.invokestatic 73, 3) := by decide +kernel
theorem dX7_odds_19 : decode cX7_odds 19 = .ok (.ifCond .eq 12, 3) := by decide +kernel
theorem dX7_odds_22 : decode cX7_odds 22 = .ok (.iload_n 3, 1) := by decide +kernel
theorem dX7_odds_23 : decode cX7_odds 23 = .ok (.iconst 0, 1) := by decide +kernel
theorem dX7_odds_24 : decode cX7_odds 24 = .ok (.iconst 1, 1) := by decide +kernel
theorem dX7_odds_25 : decode cX7_odds 25 = .ok (.invokestatic 73, 3) := by decide +kernel
theorem dX7_odds_28 : decode cX7_odds 28 = .ok (.ifCond .ne 7, 3) := by decide +kernel
theorem dX7_odds_31 : decode cX7_odds 31 = .ok (.ldc2_w 208, 3) := by decide +kernel
theorem dX7_odds_34 : decode cX7_odds 34 = .ok (.lreturn, 1) := by decide +kernel
theorem dX7_odds_35 : decode cX7_odds 35 = .ok (.lconst 1, 1) := by decide +kernel
theorem dX7_odds_36 : decode cX7_odds 36 = .ok (.lstore 4, 2) := by decide +kernel
theorem dX7_odds_38 : decode cX7_odds 38 = .ok (.iconst 0, 1) := by decide +kernel
theorem dX7_odds_39 : decode cX7_odds 39 = .ok (.istore 6, 2) := by decide +kernel
theorem dX7_odds_41 : decode cX7_odds 41 = .ok (.iload 6, 2) := by decide +kernel
theorem dX7_odds_43 : decode cX7_odds 43 = .ok (.bipush 8, 2) := by decide +kernel
theorem dX7_odds_45 : decode cX7_odds 45 = .ok (.if_icmp .ge 32, 3) := by decide +kernel
theorem dX7_odds_48 : decode cX7_odds 48 = .ok (.aload_n 0, 1) := by decide +kernel
theorem dX7_odds_49 : decode cX7_odds 49 = .ok (.getfield 56, 3) := by decide +kernel
theorem dX7_odds_52 : decode cX7_odds 52 = .ok (.iload 6, 2) := by decide +kernel
theorem dX7_odds_54 : decode cX7_odds 54 = .ok (.iload 6, 2) := by decide +kernel
theorem dX7_odds_56 : decode cX7_odds 56 = .ok (.aload_n 0, 1) := by decide +kernel
theorem dX7_odds_57 : decode cX7_odds 57 = .ok (.getfield 25, 3) := by decide +kernel
theorem dX7_odds_60 : decode cX7_odds 60 = .ok (.iconst 0, 1) := by decide +kernel
theorem dX7_odds_61 : decode cX7_odds 61 = .ok (.iaload, 1) := by decide +kernel
theorem dX7_odds_62 : decode cX7_odds 62 = .ok (.if_icmp .ne 7, 3) := by decide +kernel
theorem dX7_odds_65 : decode cX7_odds 65 = .ok (.lconst 1, 1) := by decide +kernel
theorem dX7_odds_66 : decode cX7_odds 66 = .ok (.goto 4, 3) := by decide +kernel
theorem dX7_odds_69 : decode cX7_odds 69 = .ok (.lconst 0, 1) := by decide +kernel
theorem dX7_odds_70 : decode cX7_odds 70 = .ok (.lastore, 1) := by decide +kernel
theorem dX7_odds_71 : decode cX7_odds 71 = .ok (.iinc 6 1, 3) := by decide +kernel
theorem dX7_odds_74 : decode cX7_odds 74 = .ok (.goto (-33), 3) := by decide +kernel
theorem dX7_odds_77 : decode cX7_odds 77 = .ok (.iconst 0, 1) := by decide +kernel
theorem dX7_odds_78 : decode cX7_odds 78 = .ok (.istore 6, 2) := by decide +kernel
theorem dX7_odds_80 : decode cX7_odds 80 = .ok (.iload 6, 2) := by decide +kernel
theorem dX7_odds_82 : decode cX7_odds 82 = .ok (.iload_n 2, 1) := by decide +kernel
theorem dX7_odds_83 : decode cX7_odds 83 = .ok (.if_icmp .ge 198, 3) := by decide +kernel
theorem dX7_odds_86 : decode cX7_odds 86 = .ok (.lload 4, 2) := by decide +kernel
theorem dX7_odds_88 : decode cX7_odds 88 = .ok (.ldc2_w 210, 3) := by decide +kernel
theorem dX7_odds_91 : decode cX7_odds 91 = .ok (.lmul, 1) := by decide +kernel
theorem dX7_odds_92 : decode cX7_odds 92 = .ok (.lstore 4, 2) := by decide +kernel
theorem dX7_odds_94 : decode cX7_odds 94 = .ok (.iconst 0, 1) := by decide +kernel
theorem dX7_odds_95 : decode cX7_odds 95 = .ok (.istore 7, 2) := by decide +kernel
theorem dX7_odds_97 : decode cX7_odds 97 = .ok (.iload 7, 2) := by decide +kernel
theorem dX7_odds_99 : decode cX7_odds 99 = .ok (.bipush 8, 2) := by decide +kernel
theorem dX7_odds_101 : decode cX7_odds 101 = .ok (.if_icmp .ge 17, 3) := by decide +kernel
theorem dX7_odds_104 : decode cX7_odds 104 = .ok (.aload_n 0, 1) := by decide +kernel
theorem dX7_odds_105 : decode cX7_odds 105 = .ok (.getfield 60, 3) := by decide +kernel
theorem dX7_odds_108 : decode cX7_odds 108 = .ok (.iload 7, 2) := by decide +kernel
theorem dX7_odds_110 : decode cX7_odds 110 = .ok (.lconst 0, 1) := by decide +kernel
theorem dX7_odds_111 : decode cX7_odds 111 = .ok (.lastore, 1) := by decide +kernel
theorem dX7_odds_112 : decode cX7_odds 112 = .ok (.iinc 7 1, 3) := by decide +kernel
theorem dX7_odds_115 : decode cX7_odds 115 = .ok (.goto (-18), 3) := by decide +kernel
theorem dX7_odds_118 : decode cX7_odds 118 = .ok (.iconst 0, 1) := by decide +kernel
theorem dX7_odds_119 : decode cX7_odds 119 = .ok (.istore 7, 2) := by decide +kernel
theorem dX7_odds_121 : decode cX7_odds 121 = .ok (.iload 7, 2) := by decide +kernel
theorem dX7_odds_123 : decode cX7_odds 123 = .ok (.aload_n 0, 1) := by decide +kernel
theorem dX7_odds_124 : decode cX7_odds 124 = .ok (.getfield 13, 3) := by decide +kernel
theorem dX7_odds_127 : decode cX7_odds 127 = .ok (.iconst 0, 1) := by decide +kernel
theorem dX7_odds_128 : decode cX7_odds 128 = .ok (.iaload, 1) := by decide +kernel
theorem dX7_odds_129 : decode cX7_odds 129 = .ok (.if_icmp .ge 116, 3) := by decide +kernel
theorem dX7_odds_132 : decode cX7_odds 132 = .ok (.aload_n 0, 1) := by decide +kernel
theorem dX7_odds_133 : decode cX7_odds 133 = .ok (.aload_n 0, 1) := by decide +kernel
theorem dX7_odds_134 : decode cX7_odds 134 = .ok (.invokevirtual 153, 3) := by decide +kernel
theorem dX7_odds_137 : decode cX7_odds 137 = .ok (.iload 7, 2) := by decide +kernel
theorem dX7_odds_139 : decode cX7_odds 139 = .ok (.invokevirtual 157, 3) := by decide +kernel
theorem dX7_odds_142 : decode cX7_odds 142 = .ok (.istore 8, 2) := by decide +kernel
theorem dX7_odds_144 : decode cX7_odds 144 = .ok (.aload_n 0, 1) := by decide +kernel
theorem dX7_odds_145 : decode cX7_odds 145 = .ok (.getfield 60, 3) := by decide +kernel
theorem dX7_odds_148 : decode cX7_odds 148 = .ok (.iload 7, 2) := by decide +kernel
theorem dX7_odds_150 : decode cX7_odds 150 = .ok (.dup2, 1) := by decide +kernel
theorem dX7_odds_151 : decode cX7_odds 151 = .ok (.laload, 1) := by decide +kernel
theorem dX7_odds_152 : decode cX7_odds 152 = .ok (.iload 8, 2) := by decide +kernel
theorem dX7_odds_154 : decode cX7_odds 154 = .ok (.ifCond .ne 17, 3) := by decide +kernel
theorem dX7_odds_157 : decode cX7_odds 157 = .ok (.aload_n 0, 1) := by decide +kernel
theorem dX7_odds_158 : decode cX7_odds 158 = .ok (.getfield 56, 3) := by decide +kernel
theorem dX7_odds_161 : decode cX7_odds 161 = .ok (.iload 7, 2) := by decide +kernel
theorem dX7_odds_163 : decode cX7_odds 163 = .ok (.laload, 1) := by decide +kernel
theorem dX7_odds_164 : decode cX7_odds 164 = .ok (.ldc2_w 210, 3) := by decide +kernel
theorem dX7_odds_167 : decode cX7_odds 167 = .ok (.lmul, 1) := by decide +kernel
theorem dX7_odds_168 : decode cX7_odds 168 = .ok (.goto 4, 3) := by decide +kernel
theorem dX7_odds_171 : decode cX7_odds 171 = .ok (.lconst 0, 1) := by decide +kernel
theorem dX7_odds_172 : decode cX7_odds 172 = .ok (.ladd, 1) := by decide +kernel
theorem dX7_odds_173 : decode cX7_odds 173 = .ok (.lastore, 1) := by decide +kernel
theorem dX7_odds_174 : decode cX7_odds 174 = .ok (.iconst 0, 1) := by decide +kernel
theorem dX7_odds_175 : decode cX7_odds 175 = .ok (.istore 9, 2) := by decide +kernel
theorem dX7_odds_177 : decode cX7_odds 177 = .ok (.iload 9, 2) := by decide +kernel
theorem dX7_odds_179 : decode cX7_odds 179 = .ok (.aload_n 0, 1) := by decide +kernel
theorem dX7_odds_180 : decode cX7_odds 180 = .ok (.getfield 13, 3) := by decide +kernel
theorem dX7_odds_183 : decode cX7_odds 183 = .ok (.iconst 1, 1) := by decide +kernel
theorem dX7_odds_184 : decode cX7_odds 184 = .ok (.iaload, 1) := by decide +kernel
theorem dX7_odds_185 : decode cX7_odds 185 = .ok (.if_icmp .ge 54, 3) := by decide +kernel
theorem dX7_odds_188 : decode cX7_odds 188 = .ok (.iload 8, 2) := by decide +kernel
theorem dX7_odds_190 : decode cX7_odds 190 = .ok (.iload 9, 2) := by decide +kernel
theorem dX7_odds_192 : decode cX7_odds 192 = .ok (.ishr, 1) := by decide +kernel
theorem dX7_odds_193 : decode cX7_odds 193 = .ok (.iconst 1, 1) := by decide +kernel
theorem dX7_odds_194 : decode cX7_odds 194 = .ok (.iand, 1) := by decide +kernel
theorem dX7_odds_195 : decode cX7_odds 195 = .ok (.iconst 1, 1) := by decide +kernel
theorem dX7_odds_196 : decode cX7_odds 196 = .ok (.if_icmp .ne 37, 3) := by decide +kernel
theorem dX7_odds_199 : decode cX7_odds 199 = .ok (.aload_n 0, 1) := by decide +kernel
theorem dX7_odds_200 : decode cX7_odds 200 = .ok (.getfield 60, 3) := by decide +kernel
theorem dX7_odds_203 : decode cX7_odds 203 = .ok (.aload_n 0, 1) := by decide +kernel
theorem dX7_odds_204 : decode cX7_odds 204 = .ok (.iload 9, 2) := by decide +kernel
theorem dX7_odds_206 : decode cX7_odds 206 = .ok (.iload 7, 2) := by decide +kernel
theorem dX7_odds_208 : decode cX7_odds 208 = .ok (.invokevirtual 175, 3) := by decide +kernel
theorem dX7_odds_211 : decode cX7_odds 211 = .ok (.dup2, 1) := by decide +kernel
theorem dX7_odds_212 : decode cX7_odds 212 = .ok (.laload, 1) := by decide +kernel
theorem dX7_odds_213 : decode cX7_odds 213 = .ok (.aload_n 0, 1) := by decide +kernel
theorem dX7_odds_214 : decode cX7_odds 214 = .ok (.getfield 56, 3) := by decide +kernel
theorem dX7_odds_217 : decode cX7_odds 217 = .ok (.iload 7, 2) := by decide +kernel
theorem dX7_odds_219 : decode cX7_odds 219 = .ok (.laload, 1) := by decide +kernel
theorem dX7_odds_220 : decode cX7_odds 220 = .ok (.ldc2_w 210, 3) := by decide +kernel
theorem dX7_odds_223 : decode cX7_odds 223 = .ok (.iload 8, 2) := by decide +kernel
theorem dX7_odds_225 : decode cX7_odds 225 = .ok (.invokestatic 178, 3) := by decide +kernel
theorem dX7_odds_228 : decode cX7_odds 228 = .ok (.i2l, 1) := by decide +kernel
theorem dX7_odds_229 : decode cX7_odds 229 = .ok (.ldiv, 1) := by decide +kernel
theorem dX7_odds_230 : decode cX7_odds 230 = .ok (.lmul, 1) := by decide +kernel
theorem dX7_odds_231 : decode cX7_odds 231 = .ok (.ladd, 1) := by decide +kernel
theorem dX7_odds_232 : decode cX7_odds 232 = .ok (.lastore, 1) := by decide +kernel
theorem dX7_odds_233 : decode cX7_odds 233 = .ok (.iinc 9 1, 3) := by decide +kernel
theorem dX7_odds_236 : decode cX7_odds 236 = .ok (.goto (-59), 3) := by decide +kernel
theorem dX7_odds_239 : decode cX7_odds 239 = .ok (.iinc 7 1, 3) := by decide +kernel
theorem dX7_odds_242 : decode cX7_odds 242 = .ok (.goto (-121), 3) := by decide +kernel
theorem dX7_odds_245 : decode cX7_odds 245 = .ok (.iconst 0, 1) := by decide +kernel
theorem dX7_odds_246 : decode cX7_odds 246 = .ok (.istore 7, 2) := by decide +kernel
theorem dX7_odds_248 : decode cX7_odds 248 = .ok (.iload 7, 2) := by decide +kernel
theorem dX7_odds_250 : decode cX7_odds 250 = .ok (.bipush 8, 2) := by decide +kernel
theorem dX7_odds_252 : decode cX7_odds 252 = .ok (.if_icmp .ge 23, 3) := by decide +kernel
theorem dX7_odds_255 : decode cX7_odds 255 = .ok (.aload_n 0, 1) := by decide +kernel
theorem dX7_odds_256 : decode cX7_odds 256 = .ok (.getfield 56, 3) := by decide +kernel
theorem dX7_odds_259 : decode cX7_odds 259 = .ok (.iload 7, 2) := by decide +kernel
theorem dX7_odds_261 : decode cX7_odds 261 = .ok (.aload_n 0, 1) := by decide +kernel
theorem dX7_odds_262 : decode cX7_odds 262 = .ok (.getfield 60, 3) := by decide +kernel
theorem dX7_odds_265 : decode cX7_odds 265 = .ok (.iload 7, 2) := by decide +kernel
theorem dX7_odds_267 : decode cX7_odds 267 = .ok (.laload, 1) := by decide +kernel
theorem dX7_odds_268 : decode cX7_odds 268 = .ok (.lastore, 1) := by decide +kernel
theorem dX7_odds_269 : decode cX7_odds 269 = .ok (.iinc 7 1, 3) := by decide +kernel
theorem dX7_odds_272 : decode cX7_odds 272 = .ok (.goto (-24), 3) := by decide +kernel
theorem dX7_odds_275 : decode cX7_odds 275 = .ok (.iinc 6 1, 3) := by decide +kernel
theorem dX7_odds_278 : decode cX7_odds 278 = .ok (.goto (-198), 3) := by decide +kernel
theorem dX7_odds_281 : decode cX7_odds 281 = .ok (.aload_n 0, 1) := by decide +kernel
theorem dX7_odds_282 : decode cX7_odds 282 = .ok (.getfield 56, 3) := by decide +kernel
theorem dX7_odds_285 : decode cX7_odds 285 = .ok (.iload_n 1, 1) := by decide +kernel
theorem dX7_odds_286 : decode cX7_odds 286 = .ok (.laload, 1) := by decide +kernel
theorem dX7_odds_287 : decode cX7_odds 287 = .ok (.lload 4, 2) := by decide +kernel
theorem dX7_odds_289 : decode cX7_odds 289 = .ok (.invokestatic 212, 3) := by decide +kernel
theorem dX7_odds_292 : decode cX7_odds 292 = .ok (.lstore 6, 2) := by decide +kernel
theorem dX7_odds_294 : decode cX7_odds 294 = .ok (.iload_n 3, 1) := by decide +kernel
theorem dX7_odds_295 : decode cX7_odds 295 = .ok (.ifCond .ne 15, 3) := by decide +kernel
theorem dX7_odds_298 : decode cX7_odds 298 = .ok (.aload_n 0, 1) := by decide +kernel
theorem dX7_odds_299 : decode cX7_odds 299 = .ok (.getfield 56, 3) := by decide +kernel
theorem dX7_odds_302 : decode cX7_odds 302 = .ok (.iload_n 1, 1) := by decide +kernel
theorem dX7_odds_303 : decode cX7_odds 303 = .ok (.laload, 1) := by decide +kernel
theorem dX7_odds_304 : decode cX7_odds 304 = .ok (.lload 6, 2) := by decide +kernel
theorem dX7_odds_306 : decode cX7_odds 306 = .ok (.ldiv, 1) := by decide +kernel
theorem dX7_odds_307 : decode cX7_odds 307 = .ok (.goto 8, 3) := by decide +kernel
theorem dX7_odds_310 : decode cX7_odds 310 = .ok (.lload 4, 2) := by decide +kernel
theorem dX7_odds_312 : decode cX7_odds 312 = .ok (.lload 6, 2) := by decide +kernel
theorem dX7_odds_314 : decode cX7_odds 314 = .ok (.ldiv, 1) := by decide +kernel
theorem dX7_odds_315 : decode cX7_odds 315 = .ok (.lreturn, 1) := by decide +kernel
theorem dX7_rate_0 : decode cX7_rate 0 = .ok (.aload_n 0, 1) := by decide +kernel
theorem dX7_rate_1 : decode cX7_rate 1 = .ok (.iconst 0, 1) := by decide +kernel
theorem dX7_rate_2 : decode cX7_rate 2 = .ok (.putfield 69, 3) := by decide +kernel
theorem dX7_rate_5 : decode cX7_rate 5 = .ok (.iload_n 1, 1) := by decide +kernel
theorem dX7_rate_6 : decode cX7_rate 6 = .ok (.iconst 0, 1) := by decide +kernel
theorem dX7_rate_7 : decode cX7_rate 7 = .ok (.iconst 5, 1) := by decide +kernel
theorem dX7_rate_8 : decode cX7_rate 8 = .ok (.invokestatic 73, 3) := by decide +kernel
theorem dX7_rate_11 : decode cX7_rate 11 = .ok (.ifCond .eq 11, 3) := by decide +kernel
theorem dX7_rate_14 : decode cX7_rate 14 = .ok (.aload_n 0, 1) := by decide +kernel
theorem dX7_rate_15 : decode cX7_rate 15 = .ok (.iload_n 2, 1) := by decide +kernel
theorem dX7_rate_16 : decode cX7_rate 16 = .ok (.invokevirtual 143, 3) := by decide +kernel
theorem dX7_rate_19 : decode cX7_rate 19 = .ok (.ifCond .ne 6, 3) := by decide +kernel
theorem dX7_rate_22 : decode cX7_rate 22 = .ok (.ldc 216, 2) := by decide +kernel
theorem dX7_rate_24 : decode cX7_rate 24 = .ok (.ireturn, 1) := by decide +kernel
theorem dX7_rate_25 : decode cX7_rate 25 = .ok (.aload_n 0, 1) := by decide +kernel
theorem dX7_rate_26 : decode cX7_rate 26 = .ok (.getfield 19, 3) := by decide +kernel
theorem dX7_rate_29 : decode cX7_rate 29 = .ok (.iload_n 2, 1) := by decide +kernel
theorem dX7_rate_30 : decode cX7_rate 30 = .ok (.iaload, 1) := by decide +kernel
theorem dX7_rate_31 : decode cX7_rate 31 = .ok (.aload_n 0, 1) := by decide +kernel
theorem dX7_rate_32 : decode cX7_rate 32 = .ok (.getfield 25, 3) := by decide +kernel
theorem dX7_rate_35 : decode cX7_rate 35 = .ok (.iconst 5, 1) := by decide +kernel
theorem dX7_rate_36 : decode cX7_rate 36 = .ok (.iload_n 2, 1) := by decide +kernel
theorem dX7_rate_37 : decode cX7_rate 37 = .ok (.iadd, 1) := by decide +kernel
theorem dX7_rate_38 : decode cX7_rate 38 = .ok (.iaload, 1) := by decide +kernel
theorem dX7_rate_39 : decode cX7_rate 39 = .ok (.iadd, 1) := by decide +kernel
theorem dX7_rate_40 : decode cX7_rate 40 = .ok (.istore_n 3, 1) := by decide +kernel
theorem dX7_rate_41 : decode cX7_rate 41 = .ok (.iload_n 3, 1) := by decide +kernel
theorem dX7_rate_42 : decode cX7_rate 42 = .ok (.aload_n 0, 1) := by decide +kernel
theorem dX7_rate_43 : decode cX7_rate 43 = .ok (.getfield 25, 3) := by decide +kernel
theorem dX7_rate_46 : decode cX7_rate 46 = .ok (.iconst 5, 1) := by decide +kernel
theorem dX7_rate_47 : decode cX7_rate 47 = .ok (.iload_n 2, 1) := by decide +kernel
theorem dX7_rate_48 : decode cX7_rate 48 = .ok (.iadd, 1) := by decide +kernel
theorem dX7_rate_49 : decode cX7_rate 49 = .ok (.iaload, 1) := by decide +kernel
theorem dX7_rate_50 : decode cX7_rate 50 = .ok (.iadd, 1) := by decide +kernel
theorem dX7_rate_51 : decode cX7_rate 51 = .ok (.istore 4, 2) := by decide +kernel
theorem dX7_rate_53 : decode cX7_rate 53 = .ok (.iload_n 3, 1) := by decide +kernel
theorem dX7_rate_54 : decode cX7_rate 54 = .ok (.aload_n 0, 1) := by decide +kernel
theorem dX7_rate_55 : decode cX7_rate 55 = .ok (.getfield 25, 3) := by decide +kernel
theorem dX7_rate_58 : decode cX7_rate 58 = .ok (.iconst 4, 1) := by decide +kernel
theorem dX7_rate_59 : decode cX7_rate 59 = .ok (.iaload, 1) := by decide +kernel
theorem dX7_rate_60 : decode cX7_rate 60 = .ok (.invokestatic 178, 3) := by decide +kernel
theorem dX7_rate_63 : decode cX7_rate 63 = .ok (.isub, 1) := by decide +kernel
theorem dX7_rate_64 : decode cX7_rate 64 = .ok (.istore 5, 2) := by decide +kernel
theorem dX7_rate_66 : decode cX7_rate 66 = .ok (.aload_n 0, 1) := by decide +kernel
theorem dX7_rate_67 : decode cX7_rate 67 = .ok (.dup, 1) := by decide +kernel
theorem dX7_rate_68 : decode cX7_rate 68 = .ok (.getfield 217, 3) := by decide +kernel
theorem dX7_rate_71 : decode cX7_rate 71 = .ok (.iload_n 1, 1) := by decide +kernel
theorem dX7_rate_72 : decode cX7_rate 72 = .ok (.ifCond .ne 7, 3) := by decide +kernel
theorem dX7_rate_75 : decode cX7_rate 75 = .ok (.lconst 1, 1) := by decide +kernel
theorem dX7_rate_76 : decode cX7_rate 76 = .ok (.goto 50, 3) := by decide +kernel
theorem dX7_rate_79 : decode cX7_rate 79 = .ok (.iload_n 1, 1) := by decide +kernel
theorem dX7_rate_80 : decode cX7_rate 80 = .ok (.iconst 1, 1) := by decide +kernel
theorem dX7_rate_81 : decode cX7_rate 81 = .ok (.if_icmp .ne 9, 3) := by decide +kernel
theorem dX7_rate_84 : decode cX7_rate 84 = .ok (.ldc2_w 221, 3) := by decide +kernel
theorem dX7_rate_87 : decode cX7_rate 87 = .ok (.goto 39, 3) := by decide +kernel
theorem dX7_rate_90 : decode cX7_rate 90 = .ok (.iload_n 1, 1) := by decide +kernel
theorem dX7_rate_91 : decode cX7_rate 91 = .ok (.iconst 2, 1) := by decide +kernel
theorem dX7_rate_92 : decode cX7_rate 92 = .ok (.if_icmp .ne 9, 3) := by decide +kernel
theorem dX7_rate_95 : decode cX7_rate 95 = .ok (.ldc2_w 223, 3) := by decide +kernel
theorem dX7_rate_98 : decode cX7_rate 98 = .ok (.goto 28, 3) := by decide +kernel
theorem dX7_rate_101 : decode cX7_rate 101 = .ok (.iload_n 1, 1) := by decide +kernel
theorem dX7_rate_102 : decode cX7_rate 102 = .ok (.iconst 3, 1) := by decide +kernel
theorem dX7_rate_103 : decode cX7_rate 103 = .ok (.if_icmp .ne 9, 3) := by decide +kernel
theorem dX7_rate_106 : decode cX7_rate 106 = .ok (.ldc2_w 225, 3) := by decide +kernel
theorem dX7_rate_109 : decode cX7_rate 109 = .ok (.goto 17, 3) := by decide +kernel
theorem dX7_rate_112 : decode cX7_rate 112 = .ok (.iload_n 1, 1) := by decide +kernel
theorem dX7_rate_113 : decode cX7_rate 113 = .ok (.iconst 4, 1) := by decide +kernel
theorem dX7_rate_114 : decode cX7_rate 114 = .ok (.if_icmp .ne 9, 3) := by decide +kernel
theorem dX7_rate_117 : decode cX7_rate 117 = .ok (.ldc2_w 227, 3) := by decide +kernel
theorem dX7_rate_120 : decode cX7_rate 120 = .ok (.goto 6, 3) := by decide +kernel
theorem dX7_rate_123 : decode cX7_rate 123 = .ok (.ldc2_w 229, 3) := by decide +kernel
theorem dX7_rate_126 : decode cX7_rate 126 = .ok (.ladd, 1) := by decide +kernel
theorem dX7_rate_127 : decode cX7_rate 127 = .ok (.putfield 217, 3) := by decide +kernel
theorem dX7_rate_130 : decode cX7_rate 130 = .ok (.iload_n 1, 1) := by decide +kernel
theorem dX7_rate_131 : decode cX7_rate 131 = .ok (.ifCond .ne 7, 3) := by decide +kernel
theorem dX7_rate_134 : decode cX7_rate 134 = .ok (.iload_n 3, 1) := by decide +kernel
theorem dX7_rate_135 : decode cX7_rate 135 = .ok (.goto 55, 3) := by decide +kernel
theorem dX7_rate_138 : decode cX7_rate 138 = .ok (.iload_n 1, 1) := by decide +kernel
theorem dX7_rate_139 : decode cX7_rate 139 = .ok (.iconst 1, 1) := by decide +kernel
theorem dX7_rate_140 : decode cX7_rate 140 = .ok (.if_icmp .ne 8, 3) := by decide +kernel
theorem dX7_rate_143 : decode cX7_rate 143 = .ok (.iload 4, 2) := by decide +kernel
theorem dX7_rate_145 : decode cX7_rate 145 = .ok (.goto 45, 3) := by decide +kernel
theorem dX7_rate_148 : decode cX7_rate 148 = .ok (.iload_n 1, 1) := by decide +kernel
theorem dX7_rate_149 : decode cX7_rate 149 = .ok (.iconst 2, 1) := by decide +kernel
theorem dX7_rate_150 : decode cX7_rate 150 = .ok (.if_icmp .ne 8, 3) := by decide +kernel
theorem dX7_rate_153 : decode cX7_rate 153 = .ok (.iload 5, 2) := by decide +kernel
theorem dX7_rate_155 : decode cX7_rate 155 = .ok (.goto 35, 3) := by decide +kernel
theorem dX7_rate_158 : decode cX7_rate 158 = .ok (.iload_n 1, 1) := by decide +kernel
theorem dX7_rate_159 : decode cX7_rate 159 = .ok (.iconst 3, 1) := by decide +kernel
theorem dX7_rate_160 : decode cX7_rate 160 = .ok (.if_icmp .ne 10, 3) := by decide +kernel
theorem dX7_rate_163 : decode cX7_rate 163 = .ok (.iconst 2, 1) := by decide +kernel
theorem dX7_rate_164 : decode cX7_rate 164 = .ok (.iload 4, 2) := by decide +kernel
theorem dX7_rate_166 : decode cX7_rate 166 = .ok (.imul, 1) := by decide +kernel
theorem dX7_rate_167 : decode cX7_rate 167 = .ok (.goto 23, 3) := by decide +kernel
theorem dX7_rate_170 : decode cX7_rate 170 = .ok (.iload_n 1, 1) := by decide +kernel
theorem dX7_rate_171 : decode cX7_rate 171 = .ok (.iconst 4, 1) := by decide +kernel
theorem dX7_rate_172 : decode cX7_rate 172 = .ok (.if_icmp .ne 10, 3) := by decide +kernel
theorem dX7_rate_175 : decode cX7_rate 175 = .ok (.iload 5, 2) := by decide +kernel
theorem dX7_rate_177 : decode cX7_rate 177 = .ok (.iload_n 2, 1) := by decide +kernel
theorem dX7_rate_178 : decode cX7_rate 178 = .ok (.iadd, 1) := by decide +kernel
theorem dX7_rate_179 : decode cX7_rate 179 = .ok (.goto 11, 3) := by decide +kernel
theorem dX7_rate_182 : decode cX7_rate 182 = .ok (.iload_n 3, 1) := by decide +kernel
theorem dX7_rate_183 : decode cX7_rate 183 = .ok (.aload_n 0, 1) := by decide +kernel
theorem dX7_rate_184 : decode cX7_rate 184 = .ok (.getfield 25, 3) := by decide +kernel
theorem dX7_rate_187 : decode cX7_rate 187 = .ok (.iconst 3, 1) := by decide +kernel
theorem dX7_rate_188 : decode cX7_rate 188 = .ok (.iaload, 1) := by decide +kernel
theorem dX7_rate_189 : decode cX7_rate 189 = .ok (.iadd, 1) := by decide +kernel
theorem dX7_rate_190 : decode cX7_rate 190 = .ok (.ireturn, 1) := by decide +kernel
theorem dX7_keep_0 : decode cX7_keep 0 = .ok (.aload_n 0, 1) := by decide +kernel
theorem dX7_keep_1 : decode cX7_keep 1 = .ok (.iconst 0, 1) := by decide +kernel
theorem dX7_keep_2 : decode cX7_keep 2 = .ok (.putfield 69, 3) := by decide +kernel
theorem dX7_keep_5 : decode cX7_keep 5 = .ok (.iload_n 1, 1) := by decide +kernel
theorem dX7_keep_6 : decode cX7_keep 6 = .ok (.iconst 0, 1) := by decide +kernel
theorem dX7_keep_7 : decode cX7_keep 7 = .ok (.iconst 1, 1) := by decide +kernel
theorem dX7_keep_8 : decode cX7_keep 8 = .ok (.invokestatic 73, 3) := by decide +kernel
theorem dX7_keep_11 : decode cX7_keep 11 = .ok (.ifCond .ne 5, 3) := by decide +kernel
theorem dX7_keep_14 : decode cX7_keep 14 = .ok (.iconst (-1), 1) := by decide +kernel
theorem dX7_keep_15 : decode cX7_keep 15 = .ok (.ireturn, 1) := by decide +kernel
theorem dX7_keep_16 : decode cX7_keep 16 = .ok (.iconst 0, 1) := by decide +kernel
theorem dX7_keep_17 : decode cX7_keep 17 = .ok (.istore_n 2, 1) := by decide +kernel
theorem dX7_keep_18 : decode cX7_keep 18 = .ok (.iload_n 2, 1) := by decide +kernel
theorem dX7_keep_19 : decode cX7_keep 19 = .ok (.bipush 17, 2) := by decide +kernel
theorem dX7_keep_21 : decode cX7_keep 21 = .ok (.if_icmp .ge 26, 3) := by decide +kernel
theorem dX7_keep_24 : decode cX7_keep 24 = .ok (.aload_n 0, 1) := by decide +kernel
theorem dX7_keep_25 : decode cX7_keep 25 = .ok (.getfield 28, 3) := by decide +kernel
theorem dX7_keep_28 : decode cX7_keep 28 = .ok (.bipush 17, 2) := by decide +kernel
theorem dX7_keep_30 : decode cX7_keep 30 = .ok (.iload_n 1, 1) := by decide +kernel
theorem dX7_keep_31 : decode cX7_keep 31 = .ok (.imul, 1) := by decide +kernel
theorem dX7_keep_32 : decode cX7_keep 32 = .ok (.iload_n 2, 1) := by decide +kernel
theorem dX7_keep_33 : decode cX7_keep 33 = .ok (.iadd, 1) := by decide +kernel
theorem dX7_keep_34 : decode cX7_keep 34 = .ok (.aload_n 0, 1) := by decide +kernel
theorem dX7_keep_35 : decode cX7_keep 35 = .ok (.getfield 25, 3) := by decide +kernel
theorem dX7_keep_38 : decode cX7_keep 38 = .ok (.iload_n 2, 1) := by decide +kernel
theorem dX7_keep_39 : decode cX7_keep 39 = .ok (.iaload, 1) := by decide +kernel
theorem dX7_keep_40 : decode cX7_keep 40 = .ok (.iastore, 1) := by decide +kernel
theorem dX7_keep_41 : decode cX7_keep 41 = .ok (.iinc 2 1, 3) := by decide +kernel
theorem dX7_keep_44 : decode cX7_keep 44 = .ok (.goto (-26), 3) := by decide +kernel
theorem dX7_keep_47 : decode cX7_keep 47 = .ok (.aload_n 0, 1) := by decide +kernel
theorem dX7_keep_48 : decode cX7_keep 48 = .ok (.getfield 31, 3) := by decide +kernel
theorem dX7_keep_51 : decode cX7_keep 51 = .ok (.iload_n 1, 1) := by decide +kernel
theorem dX7_keep_52 : decode cX7_keep 52 = .ok (.iconst 1, 1) := by decide +kernel
theorem dX7_keep_53 : decode cX7_keep 53 = .ok (.bastore, 1) := by decide +kernel
theorem dX7_keep_54 : decode cX7_keep 54 = .ok (.aload_n 0, 1) := by decide +kernel
theorem dX7_keep_55 : decode cX7_keep 55 = .ok (.getfield 25, 3) := by decide +kernel
theorem dX7_keep_58 : decode cX7_keep 58 = .ok (.iconst 2, 1) := by decide +kernel
theorem dX7_keep_59 : decode cX7_keep 59 = .ok (.iaload, 1) := by decide +kernel
theorem dX7_keep_60 : decode cX7_keep 60 = .ok (.ireturn, 1) := by decide +kernel
theorem dX7_back_0 : decode cX7_back 0 = .ok (.aload_n 0, 1) := by decide +kernel
theorem dX7_back_1 : decode cX7_back 1 = .ok (.iconst 0, 1) := by decide +kernel
theorem dX7_back_2 : decode cX7_back 2 = .ok (.putfield 69, 3) := by decide +kernel
theorem dX7_back_5 : decode cX7_back 5 = .ok (.iload_n 1, 1) := by decide +kernel
theorem dX7_back_6 : decode cX7_back 6 = .ok (.iconst 0, 1) := by decide +kernel
theorem dX7_back_7 : decode cX7_back 7 = .ok (.iconst 1, 1) := by decide +kernel
theorem dX7_back_8 : decode cX7_back 8 = .ok (.invokestatic 73, 3) := by decide +kernel
theorem dX7_back_11 : decode cX7_back 11 = .ok (.ifCond .ne 5, 3) := by decide +kernel
theorem dX7_back_14 : decode cX7_back 14 = .ok (.iconst (-1), 1) := by decide +kernel
theorem dX7_back_15 : decode cX7_back 15 = .ok (.ireturn, 1) := by decide +kernel
theorem dX7_back_16 : decode cX7_back 16 = .ok (.aload_n 0, 1) := by decide +kernel
theorem dX7_back_17 : decode cX7_back 17 = .ok (.getfield 31, 3) := by decide +kernel
theorem dX7_back_20 : decode cX7_back 20 = .ok (.iload_n 1, 1) := by decide +kernel
theorem dX7_back_21 : decode cX7_back 21 = .ok (.baload, 1) := by decide +kernel
theorem dX7_back_22 : decode cX7_back 22 = .ok (.ifCond .ne 6, 3) := by decide +kernel
theorem dX7_back_25 : decode cX7_back 25 = .ok (.bipush (-2), 2) := by decide +kernel
theorem dX7_back_27 : decode cX7_back 27 = .ok (.ireturn, 1) := by decide +kernel
theorem dX7_back_28 : decode cX7_back 28 = .ok (.iconst 0, 1) := by decide +kernel
theorem dX7_back_29 : decode cX7_back 29 = .ok (.istore_n 2, 1) := by decide +kernel
theorem dX7_back_30 : decode cX7_back 30 = .ok (.iload_n 2, 1) := by decide +kernel
theorem dX7_back_31 : decode cX7_back 31 = .ok (.bipush 17, 2) := by decide +kernel
theorem dX7_back_33 : decode cX7_back 33 = .ok (.if_icmp .ge 26, 3) := by decide +kernel
theorem dX7_back_36 : decode cX7_back 36 = .ok (.aload_n 0, 1) := by decide +kernel
theorem dX7_back_37 : decode cX7_back 37 = .ok (.getfield 25, 3) := by decide +kernel
theorem dX7_back_40 : decode cX7_back 40 = .ok (.iload_n 2, 1) := by decide +kernel
theorem dX7_back_41 : decode cX7_back 41 = .ok (.aload_n 0, 1) := by decide +kernel
theorem dX7_back_42 : decode cX7_back 42 = .ok (.getfield 28, 3) := by decide +kernel
theorem dX7_back_45 : decode cX7_back 45 = .ok (.bipush 17, 2) := by decide +kernel
theorem dX7_back_47 : decode cX7_back 47 = .ok (.iload_n 1, 1) := by decide +kernel
theorem dX7_back_48 : decode cX7_back 48 = .ok (.imul, 1) := by decide +kernel
theorem dX7_back_49 : decode cX7_back 49 = .ok (.iload_n 2, 1) := by decide +kernel
theorem dX7_back_50 : decode cX7_back 50 = .ok (.iadd, 1) := by decide +kernel
theorem dX7_back_51 : decode cX7_back 51 = .ok (.iaload, 1) := by decide +kernel
theorem dX7_back_52 : decode cX7_back 52 = .ok (.iastore, 1) := by decide +kernel
theorem dX7_back_53 : decode cX7_back 53 = .ok (.iinc 2 1, 3) := by decide +kernel
theorem dX7_back_56 : decode cX7_back 56 = .ok (.goto (-26), 3) := by decide +kernel
theorem dX7_back_59 : decode cX7_back 59 = .ok (.aload_n 0, 1) := by decide +kernel
theorem dX7_back_60 : decode cX7_back 60 = .ok (.iconst 0, 1) := by decide +kernel
theorem dX7_back_61 : decode cX7_back 61 = .ok (.putfield 140, 3) := by decide +kernel
theorem dX7_back_64 : decode cX7_back 64 = .ok (.aload_n 0, 1) := by decide +kernel
theorem dX7_back_65 : decode cX7_back 65 = .ok (.getfield 25, 3) := by decide +kernel
theorem dX7_back_68 : decode cX7_back 68 = .ok (.iconst 2, 1) := by decide +kernel
theorem dX7_back_69 : decode cX7_back 69 = .ok (.iaload, 1) := by decide +kernel
theorem dX7_back_70 : decode cX7_back 70 = .ok (.ireturn, 1) := by decide +kernel
theorem dX7_count_0 : decode cX7_count 0 = .ok (.aload_n 0, 1) := by decide +kernel
theorem dX7_count_1 : decode cX7_count 1 = .ok (.iconst 0, 1) := by decide +kernel
theorem dX7_count_2 : decode cX7_count 2 = .ok (.putfield 69, 3) := by decide +kernel
theorem dX7_count_5 : decode cX7_count 5 = .ok (.iload_n 1, 1) := by decide +kernel
theorem dX7_count_6 : decode cX7_count 6 = .ok (.iconst 0, 1) := by decide +kernel
theorem dX7_count_7 : decode cX7_count 7 = .ok (.iconst 5, 1) := by decide +kernel
theorem dX7_count_8 : decode cX7_count 8 = .ok (.invokestatic 73, 3) := by decide +kernel
theorem dX7_count_11 : decode cX7_count 11 = .ok (.ifCond .eq 12, 3) := by decide +kernel
theorem dX7_count_14 : decode cX7_count 14 = .ok (.aload_n 0, 1) := by decide +kernel
theorem dX7_count_15 : decode cX7_count 15 = .ok (.getfield 13, 3) := by decide +kernel
theorem dX7_count_18 : decode cX7_count 18 = .ok (.iload_n 1, 1) := by decide +kernel
theorem dX7_count_19 : decode cX7_count 19 = .ok (.iaload, 1) := by decide +kernel
theorem dX7_count_20 : decode cX7_count 20 = .ok (.goto 43, 3) := by decide +kernel
theorem dX7_count_23 : decode cX7_count 23 = .ok (.iload_n 1, 1) := by decide +kernel
theorem dX7_count_24 : decode cX7_count 24 = .ok (.bipush 6, 2) := by decide +kernel
theorem dX7_count_26 : decode cX7_count 26 = .ok (.if_icmp .ne 10, 3) := by decide +kernel
theorem dX7_count_29 : decode cX7_count 29 = .ok (.aload_n 0, 1) := by decide +kernel
theorem dX7_count_30 : decode cX7_count 30 = .ok (.getfield 134, 3) := by decide +kernel
theorem dX7_count_33 : decode cX7_count 33 = .ok (.goto 30, 3) := by decide +kernel
theorem dX7_count_36 : decode cX7_count 36 = .ok (.iload_n 1, 1) := by decide +kernel
theorem dX7_count_37 : decode cX7_count 37 = .ok (.bipush 7, 2) := by decide +kernel
theorem dX7_count_39 : decode cX7_count 39 = .ok (.if_icmp .ne 10, 3) := by decide +kernel
theorem dX7_count_42 : decode cX7_count 42 = .ok (.aload_n 0, 1) := by decide +kernel
theorem dX7_count_43 : decode cX7_count 43 = .ok (.getfield 137, 3) := by decide +kernel
theorem dX7_count_46 : decode cX7_count 46 = .ok (.goto 17, 3) := by decide +kernel
theorem dX7_count_49 : decode cX7_count 49 = .ok (.iload_n 1, 1) := by decide +kernel
theorem dX7_count_50 : decode cX7_count 50 = .ok (.bipush 8, 2) := by decide +kernel
theorem dX7_count_52 : decode cX7_count 52 = .ok (.if_icmp .ne 10, 3) := by decide +kernel
theorem dX7_count_55 : decode cX7_count 55 = .ok (.aload_n 0, 1) := by decide +kernel
theorem dX7_count_56 : decode cX7_count 56 = .ok (.getfield 77, 3) := by decide +kernel
theorem dX7_count_59 : decode cX7_count 59 = .ok (.goto 4, 3) := by decide +kernel
theorem dX7_count_62 : decode cX7_count 62 = .ok (.iconst (-1), 1) := by decide +kernel
theorem dX7_count_63 : decode cX7_count 63 = .ok (.ireturn, 1) := by decide +kernel
theorem dX7_trace_0 : decode cX7_trace 0 = .ok (.aload_n 0, 1) := by decide +kernel
theorem dX7_trace_1 : decode cX7_trace 1 = .ok (.iconst 0, 1) := by decide +kernel
theorem dX7_trace_2 : decode cX7_trace 2 = .ok (.putfield 69, 3) := by decide +kernel
theorem dX7_trace_5 : decode cX7_trace 5 = .ok (.aload_n 0, 1) := by decide +kernel
theorem dX7_trace_6 : decode cX7_trace 6 = .ok (.getfield 217, 3) := by decide +kernel
theorem dX7_trace_9 : decode cX7_trace 9 = .ok (.lreturn, 1) := by decide +kernel
theorem dJ6_bitCount_0f7a4_0 : decode cJ6_bitCount_0f7a4 0 = .ok (.iload_n 0, 1) := by decide +kernel
theorem dJ6_bitCount_0f7a4_1 : decode cJ6_bitCount_0f7a4 1 = .ok (.iload_n 0, 1) := by decide +kernel
theorem dJ6_bitCount_0f7a4_2 : decode cJ6_bitCount_0f7a4 2 = .ok (.iconst 1, 1) := by decide +kernel
theorem dJ6_bitCount_0f7a4_3 : decode cJ6_bitCount_0f7a4 3 = .ok (.iushr, 1) := by decide +kernel
theorem dJ6_bitCount_0f7a4_4 : decode cJ6_bitCount_0f7a4 4 = .ok (.ldc_w 265, 3) := by decide +kernel
theorem dJ6_bitCount_0f7a4_7 : decode cJ6_bitCount_0f7a4 7 = .ok (.iand, 1) := by decide +kernel
theorem dJ6_bitCount_0f7a4_8 : decode cJ6_bitCount_0f7a4 8 = .ok (.isub, 1) := by decide +kernel
theorem dJ6_bitCount_0f7a4_9 : decode cJ6_bitCount_0f7a4 9 = .ok (.istore_n 0, 1) := by decide +kernel
theorem dJ6_bitCount_0f7a4_10 : decode cJ6_bitCount_0f7a4 10 = .ok (.iload_n 0, 1) := by decide +kernel
theorem dJ6_bitCount_0f7a4_11 : decode cJ6_bitCount_0f7a4 11 = .ok (.ldc_w 266, 3) := by decide +kernel
theorem dJ6_bitCount_0f7a4_14 : decode cJ6_bitCount_0f7a4 14 = .ok (.iand, 1) := by decide +kernel
theorem dJ6_bitCount_0f7a4_15 : decode cJ6_bitCount_0f7a4 15 = .ok (.iload_n 0, 1) := by decide +kernel
theorem dJ6_bitCount_0f7a4_16 : decode cJ6_bitCount_0f7a4 16 = .ok (.iconst 2, 1) := by decide +kernel
theorem dJ6_bitCount_0f7a4_17 : decode cJ6_bitCount_0f7a4 17 = .ok (.iushr, 1) := by decide +kernel
theorem dJ6_bitCount_0f7a4_18 : decode cJ6_bitCount_0f7a4 18 = .ok (.ldc_w 266, 3) := by decide +kernel
theorem dJ6_bitCount_0f7a4_21 : decode cJ6_bitCount_0f7a4 21 = .ok (.iand, 1) := by decide +kernel
theorem dJ6_bitCount_0f7a4_22 : decode cJ6_bitCount_0f7a4 22 = .ok (.iadd, 1) := by decide +kernel
theorem dJ6_bitCount_0f7a4_23 : decode cJ6_bitCount_0f7a4 23 = .ok (.istore_n 0, 1) := by decide +kernel
theorem dJ6_bitCount_0f7a4_24 : decode cJ6_bitCount_0f7a4 24 = .ok (.iload_n 0, 1) := by decide +kernel
theorem dJ6_bitCount_0f7a4_25 : decode cJ6_bitCount_0f7a4 25 = .ok (.iload_n 0, 1) := by decide +kernel
theorem dJ6_bitCount_0f7a4_26 : decode cJ6_bitCount_0f7a4 26 = .ok (.iconst 4, 1) := by decide +kernel
theorem dJ6_bitCount_0f7a4_27 : decode cJ6_bitCount_0f7a4 27 = .ok (.iushr, 1) := by decide +kernel
theorem dJ6_bitCount_0f7a4_28 : decode cJ6_bitCount_0f7a4 28 = .ok (.iadd, 1) := by decide +kernel
theorem dJ6_bitCount_0f7a4_29 : decode cJ6_bitCount_0f7a4 29 = .ok (.ldc_w 267, 3) := by decide +kernel
theorem dJ6_bitCount_0f7a4_32 : decode cJ6_bitCount_0f7a4 32 = .ok (.iand, 1) := by decide +kernel
theorem dJ6_bitCount_0f7a4_33 : decode cJ6_bitCount_0f7a4 33 = .ok (.istore_n 0, 1) := by decide +kernel
theorem dJ6_bitCount_0f7a4_34 : decode cJ6_bitCount_0f7a4 34 = .ok (.iload_n 0, 1) := by decide +kernel
theorem dJ6_bitCount_0f7a4_35 : decode cJ6_bitCount_0f7a4 35 = .ok (.iload_n 0, 1) := by decide +kernel
theorem dJ6_bitCount_0f7a4_36 : decode cJ6_bitCount_0f7a4 36 = .ok (.bipush 8, 2) := by decide +kernel
theorem dJ6_bitCount_0f7a4_38 : decode cJ6_bitCount_0f7a4 38 = .ok (.iushr, 1) := by decide +kernel
theorem dJ6_bitCount_0f7a4_39 : decode cJ6_bitCount_0f7a4 39 = .ok (.iadd, 1) := by decide +kernel
theorem dJ6_bitCount_0f7a4_40 : decode cJ6_bitCount_0f7a4 40 = .ok (.istore_n 0, 1) := by decide +kernel
theorem dJ6_bitCount_0f7a4_41 : decode cJ6_bitCount_0f7a4 41 = .ok (.iload_n 0, 1) := by decide +kernel
theorem dJ6_bitCount_0f7a4_42 : decode cJ6_bitCount_0f7a4 42 = .ok (.iload_n 0, 1) := by decide +kernel
theorem dJ6_bitCount_0f7a4_43 : decode cJ6_bitCount_0f7a4 43 = .ok (.bipush 16, 2) := by decide +kernel
theorem dJ6_bitCount_0f7a4_45 : decode cJ6_bitCount_0f7a4 45 = .ok (.iushr, 1) := by decide +kernel
theorem dJ6_bitCount_0f7a4_46 : decode cJ6_bitCount_0f7a4 46 = .ok (.iadd, 1) := by decide +kernel
theorem dJ6_bitCount_0f7a4_47 : decode cJ6_bitCount_0f7a4 47 = .ok (.istore_n 0, 1) := by decide +kernel
theorem dJ6_bitCount_0f7a4_48 : decode cJ6_bitCount_0f7a4 48 = .ok (.iload_n 0, 1) := by decide +kernel
theorem dJ6_bitCount_0f7a4_49 : decode cJ6_bitCount_0f7a4 49 = .ok (.bipush 63, 2) := by decide +kernel
theorem dJ6_bitCount_0f7a4_51 : decode cJ6_bitCount_0f7a4 51 = .ok (.iand, 1) := by decide +kernel
theorem dJ6_bitCount_0f7a4_52 : decode cJ6_bitCount_0f7a4 52 = .ok (.ireturn, 1) := by decide +kernel
theorem dJ9_min_7cf53_0 : decode cJ9_min_7cf53 0 = .ok (.iload_n 0, 1) := by decide +kernel
theorem dJ9_min_7cf53_1 : decode cJ9_min_7cf53 1 = .ok (.iload_n 1, 1) := by decide +kernel
theorem dJ9_min_7cf53_2 : decode cJ9_min_7cf53 2 = .ok (.if_icmp .gt 7, 3) := by decide +kernel
theorem dJ9_min_7cf53_5 : decode cJ9_min_7cf53 5 = .ok (.iload_n 0, 1) := by decide +kernel
theorem dJ9_min_7cf53_6 : decode cJ9_min_7cf53 6 = .ok (.goto 4, 3) := by decide +kernel
theorem dJ9_min_7cf53_9 : decode cJ9_min_7cf53 9 = .ok (.iload_n 1, 1) := by decide +kernel
theorem dJ9_min_7cf53_10 : decode cJ9_min_7cf53 10 = .ok (.ireturn, 1) := by decide +kernel
theorem dL_law_0 : decode cL_law 0 = .ok (.new 7, 3) := by decide +kernel
theorem dL_law_3 : decode cL_law 3 = .ok (.dup, 1) := by decide +kernel
theorem dL_law_4 : decode cL_law 4 = .ok (.invokespecial 9, 3) := by decide +kernel
theorem dL_law_7 : decode cL_law 7 = .ok (.astore_n 1, 1) := by decide +kernel
theorem dL_law_8 : decode cL_law 8 = .ok (.new 10, 3) := by decide +kernel
theorem dL_law_11 : decode cL_law 11 = .ok (.dup, 1) := by decide +kernel
theorem dL_law_12 : decode cL_law 12 = .ok (.invokespecial 12, 3) := by decide +kernel
theorem dL_law_15 : decode cL_law 15 = .ok (.astore_n 2, 1) := by decide +kernel
theorem dL_law_16 : decode cL_law 16 = .ok (.iconst 0, 1) := by decide +kernel
theorem dL_law_17 : decode cL_law 17 = .ok (.istore_n 3, 1) := by decide +kernel
theorem dL_law_18 : decode cL_law 18 = .ok (.iload_n 3, 1) := by decide +kernel
theorem dL_law_19 : decode cL_law 19 = .ok (.aload_n 0, 1) := by decide +kernel
theorem dL_law_20 : decode cL_law 20 = .ok (.arraylength, 1) := by decide +kernel
theorem dL_law_21 : decode cL_law 21 = .ok (.iconst 4, 1) := by decide +kernel
theorem dL_law_22 : decode cL_law 22 = .ok (.isub, 1) := by decide +kernel
theorem dL_law_23 : decode cL_law 23 = .ok (.if_icmp .gt 836, 3) := by decide +kernel
theorem dL_law_26 : decode cL_law 26 = .ok (.aload_n 0, 1) := by decide +kernel
theorem dL_law_27 : decode cL_law 27 = .ok (.iload_n 3, 1) := by decide +kernel
theorem dL_law_28 : decode cL_law 28 = .ok (.iaload, 1) := by decide +kernel
theorem dL_law_29 : decode cL_law 29 = .ok (.bipush 31, 2) := by decide +kernel
theorem dL_law_31 : decode cL_law 31 = .ok (.iand, 1) := by decide +kernel
theorem dL_law_32 : decode cL_law 32 = .ok (.tableswitch 821 0 28 #[132, 155, 168, 181, 214, 237, 260, 283, 316, 349, 362, 385, 398, 421, 444, 467, 480, 503, 536, 559, 592, 605, 628, 661, 705, 738, 761, 784, 807], 132) := by decide +kernel
theorem dL_law_164 : decode cL_law 164 = .ok (.aload_n 1, 1) := by decide +kernel
theorem dL_law_165 : decode cL_law 165 = .ok (.aload_n 0, 1) := by decide +kernel
theorem dL_law_166 : decode cL_law 166 = .ok (.iload_n 3, 1) := by decide +kernel
theorem dL_law_167 : decode cL_law 167 = .ok (.iconst 1, 1) := by decide +kernel
theorem dL_law_168 : decode cL_law 168 = .ok (.iadd, 1) := by decide +kernel
theorem dL_law_169 : decode cL_law 169 = .ok (.iaload, 1) := by decide +kernel
theorem dL_law_170 : decode cL_law 170 = .ok (.invokevirtual 13, 3) := by decide +kernel
theorem dL_law_173 : decode cL_law 173 = .ok (.aload_n 2, 1) := by decide +kernel
theorem dL_law_174 : decode cL_law 174 = .ok (.aload_n 0, 1) := by decide +kernel
theorem dL_law_175 : decode cL_law 175 = .ok (.iload_n 3, 1) := by decide +kernel
theorem dL_law_176 : decode cL_law 176 = .ok (.iconst 1, 1) := by decide +kernel
theorem dL_law_177 : decode cL_law 177 = .ok (.iadd, 1) := by decide +kernel
theorem dL_law_178 : decode cL_law 178 = .ok (.iaload, 1) := by decide +kernel
theorem dL_law_179 : decode cL_law 179 = .ok (.invokevirtual 17, 3) := by decide +kernel
theorem dL_law_182 : decode cL_law 182 = .ok (.if_icmp .eq 671, 3) := by decide +kernel
theorem dL_law_185 : decode cL_law 185 = .ok (.iconst 0, 1) := by decide +kernel
theorem dL_law_186 : decode cL_law 186 = .ok (.ireturn, 1) := by decide +kernel
theorem dL_law_187 : decode cL_law 187 = .ok (.aload_n 1, 1) := by decide +kernel
theorem dL_law_188 : decode cL_law 188 = .ok (.invokevirtual 18, 3) := by decide +kernel
theorem dL_law_191 : decode cL_law 191 = .ok (.aload_n 2, 1) := by decide +kernel
theorem dL_law_192 : decode cL_law 192 = .ok (.invokevirtual 22, 3) := by decide +kernel
theorem dL_law_195 : decode cL_law 195 = .ok (.if_icmp .eq 658, 3) := by decide +kernel
theorem dL_law_198 : decode cL_law 198 = .ok (.iconst 0, 1) := by decide +kernel
theorem dL_law_199 : decode cL_law 199 = .ok (.ireturn, 1) := by decide +kernel
theorem dL_law_200 : decode cL_law 200 = .ok (.aload_n 1, 1) := by decide +kernel
theorem dL_law_201 : decode cL_law 201 = .ok (.invokevirtual 23, 3) := by decide +kernel
theorem dL_law_204 : decode cL_law 204 = .ok (.aload_n 2, 1) := by decide +kernel
theorem dL_law_205 : decode cL_law 205 = .ok (.invokevirtual 26, 3) := by decide +kernel
theorem dL_law_208 : decode cL_law 208 = .ok (.if_icmp .eq 645, 3) := by decide +kernel
theorem dL_law_211 : decode cL_law 211 = .ok (.iconst 0, 1) := by decide +kernel
theorem dL_law_212 : decode cL_law 212 = .ok (.ireturn, 1) := by decide +kernel
theorem dL_law_213 : decode cL_law 213 = .ok (.aload_n 1, 1) := by decide +kernel
theorem dL_law_214 : decode cL_law 214 = .ok (.aload_n 0, 1) := by decide +kernel
theorem dL_law_215 : decode cL_law 215 = .ok (.iload_n 3, 1) := by decide +kernel
theorem dL_law_216 : decode cL_law 216 = .ok (.iconst 1, 1) := by decide +kernel
theorem dL_law_217 : decode cL_law 217 = .ok (.iadd, 1) := by decide +kernel
theorem dL_law_218 : decode cL_law 218 = .ok (.iaload, 1) := by decide +kernel
theorem dL_law_219 : decode cL_law 219 = .ok (.aload_n 0, 1) := by decide +kernel
theorem dL_law_220 : decode cL_law 220 = .ok (.iload_n 3, 1) := by decide +kernel
theorem dL_law_221 : decode cL_law 221 = .ok (.iconst 2, 1) := by decide +kernel
theorem dL_law_222 : decode cL_law 222 = .ok (.iadd, 1) := by decide +kernel
theorem dL_law_223 : decode cL_law 223 = .ok (.iaload, 1) := by decide +kernel
theorem dL_law_224 : decode cL_law 224 = .ok (.invokevirtual 27, 3) := by decide +kernel
theorem dL_law_227 : decode cL_law 227 = .ok (.aload_n 2, 1) := by decide +kernel
theorem dL_law_228 : decode cL_law 228 = .ok (.aload_n 0, 1) := by decide +kernel
theorem dL_law_229 : decode cL_law 229 = .ok (.iload_n 3, 1) := by decide +kernel
theorem dL_law_230 : decode cL_law 230 = .ok (.iconst 1, 1) := by decide +kernel
theorem dL_law_231 : decode cL_law 231 = .ok (.iadd, 1) := by decide +kernel
theorem dL_law_232 : decode cL_law 232 = .ok (.iaload, 1) := by decide +kernel
theorem dL_law_233 : decode cL_law 233 = .ok (.aload_n 0, 1) := by decide +kernel
theorem dL_law_234 : decode cL_law 234 = .ok (.iload_n 3, 1) := by decide +kernel
theorem dL_law_235 : decode cL_law 235 = .ok (.iconst 2, 1) := by decide +kernel
theorem dL_law_236 : decode cL_law 236 = .ok (.iadd, 1) := by decide +kernel
theorem dL_law_237 : decode cL_law 237 = .ok (.iaload, 1) := by decide +kernel
theorem dL_law_238 : decode cL_law 238 = .ok (.invokevirtual 31, 3) := by decide +kernel
theorem dL_law_241 : decode cL_law 241 = .ok (.if_icmp .eq 612, 3) := by decide +kernel
theorem dL_law_244 : decode cL_law 244 = .ok (.iconst 0, 1) := by decide +kernel
theorem dL_law_245 : decode cL_law 245 = .ok (.ireturn, 1) := by decide +kernel
theorem dL_law_246 : decode cL_law 246 = .ok (.aload_n 1, 1) := by decide +kernel
theorem dL_law_247 : decode cL_law 247 = .ok (.aload_n 0, 1) := by decide +kernel
theorem dL_law_248 : decode cL_law 248 = .ok (.iload_n 3, 1) := by decide +kernel
theorem dL_law_249 : decode cL_law 249 = .ok (.iconst 1, 1) := by decide +kernel
theorem dL_law_250 : decode cL_law 250 = .ok (.iadd, 1) := by decide +kernel
theorem dL_law_251 : decode cL_law 251 = .ok (.iaload, 1) := by decide +kernel
