/-! ===== rows of the law ===== -/
theorem dL_below_0 : decode cL_below 0 = .ok (.iload_n 0, 1) := by decide +kernel
theorem dL_below_1 : decode cL_below 1 = .ok (.ldc 7, 2) := by decide +kernel
theorem dL_below_3 : decode cL_below 3 = .ok (.iand, 1) := by decide +kernel
theorem dL_below_4 : decode cL_below 4 = .ok (.iload_n 1, 1) := by decide +kernel
theorem dL_below_5 : decode cL_below 5 = .ok (.irem, 1) := by decide +kernel
theorem dL_below_6 : decode cL_below 6 = .ok (.ireturn, 1) := by decide +kernel
theorem dL_cell_0 : decode cL_cell 0 = .ok (.iload_n 1, 1) := by decide +kernel
theorem dL_cell_1 : decode cL_cell 1 = .ok (.aload_n 0, 1) := by decide +kernel
theorem dL_cell_2 : decode cL_cell 2 = .ok (.arraylength, 1) := by decide +kernel
theorem dL_cell_3 : decode cL_cell 3 = .ok (.if_icmp .ge 9, 3) := by decide +kernel
theorem dL_cell_6 : decode cL_cell 6 = .ok (.aload_n 0, 1) := by decide +kernel
theorem dL_cell_7 : decode cL_cell 7 = .ok (.iload_n 1, 1) := by decide +kernel
theorem dL_cell_8 : decode cL_cell 8 = .ok (.iaload, 1) := by decide +kernel
theorem dL_cell_9 : decode cL_cell 9 = .ok (.goto 9, 3) := by decide +kernel
theorem dL_cell_12 : decode cL_cell 12 = .ok (.ldc 8, 2) := by decide +kernel
theorem dL_cell_14 : decode cL_cell 14 = .ok (.iload_n 1, 1) := by decide +kernel
theorem dL_cell_15 : decode cL_cell 15 = .ok (.iconst 3, 1) := by decide +kernel
theorem dL_cell_16 : decode cL_cell 16 = .ok (.iadd, 1) := by decide +kernel
theorem dL_cell_17 : decode cL_cell 17 = .ok (.imul, 1) := by decide +kernel
theorem dL_cell_18 : decode cL_cell 18 = .ok (.ireturn, 1) := by decide +kernel
theorem dL_build_0 : decode cL_build 0 = .ok (.new 9, 3) := by decide +kernel
theorem dL_build_3 : decode cL_build 3 = .ok (.dup, 1) := by decide +kernel
theorem dL_build_4 : decode cL_build 4 = .ok (.invokespecial 11, 3) := by decide +kernel
theorem dL_build_7 : decode cL_build 7 = .ok (.astore_n 2, 1) := by decide +kernel
theorem dL_build_8 : decode cL_build 8 = .ok (.aload_n 1, 1) := by decide +kernel
theorem dL_build_9 : decode cL_build 9 = .ok (.iconst 0, 1) := by decide +kernel
theorem dL_build_10 : decode cL_build 10 = .ok (.invokestatic 12, 3) := by decide +kernel
theorem dL_build_13 : decode cL_build 13 = .ok (.iconst 3, 1) := by decide +kernel
theorem dL_build_14 : decode cL_build 14 = .ok (.invokestatic 18, 3) := by decide +kernel
theorem dL_build_17 : decode cL_build 17 = .ok (.ifCond .le 77, 3) := by decide +kernel
theorem dL_build_20 : decode cL_build 20 = .ok (.aload_n 2, 1) := by decide +kernel
theorem dL_build_21 : decode cL_build 21 = .ok (.iconst 1, 1) := by decide +kernel
theorem dL_build_22 : decode cL_build 22 = .ok (.aload_n 1, 1) := by decide +kernel
theorem dL_build_23 : decode cL_build 23 = .ok (.iconst 1, 1) := by decide +kernel
theorem dL_build_24 : decode cL_build 24 = .ok (.invokestatic 12, 3) := by decide +kernel
theorem dL_build_27 : decode cL_build 27 = .ok (.aload_n 1, 1) := by decide +kernel
theorem dL_build_28 : decode cL_build 28 = .ok (.iconst 0, 1) := by decide +kernel
theorem dL_build_29 : decode cL_build 29 = .ok (.invokestatic 12, 3) := by decide +kernel
theorem dL_build_32 : decode cL_build 32 = .ok (.iconst 2, 1) := by decide +kernel
theorem dL_build_33 : decode cL_build 33 = .ok (.ishr, 1) := by decide +kernel
theorem dL_build_34 : decode cL_build 34 = .ok (.iconst 2, 1) := by decide +kernel
theorem dL_build_35 : decode cL_build 35 = .ok (.invokestatic 18, 3) := by decide +kernel
theorem dL_build_38 : decode cL_build 38 = .ok (.ifCond .ne 9, 3) := by decide +kernel
theorem dL_build_41 : decode cL_build 41 = .ok (.sipush 400, 3) := by decide +kernel
theorem dL_build_44 : decode cL_build 44 = .ok (.goto 5, 3) := by decide +kernel
theorem dL_build_47 : decode cL_build 47 = .ok (.bipush 30, 2) := by decide +kernel
theorem dL_build_49 : decode cL_build 49 = .ok (.invokestatic 18, 3) := by decide +kernel
theorem dL_build_52 : decode cL_build 52 = .ok (.iadd, 1) := by decide +kernel
theorem dL_build_53 : decode cL_build 53 = .ok (.putfield 22, 3) := by decide +kernel
theorem dL_build_56 : decode cL_build 56 = .ok (.aload_n 2, 1) := by decide +kernel
theorem dL_build_57 : decode cL_build 57 = .ok (.aload_n 1, 1) := by decide +kernel
theorem dL_build_58 : decode cL_build 58 = .ok (.iconst 2, 1) := by decide +kernel
theorem dL_build_59 : decode cL_build 59 = .ok (.invokestatic 12, 3) := by decide +kernel
theorem dL_build_62 : decode cL_build 62 = .ok (.aload_n 2, 1) := by decide +kernel
theorem dL_build_63 : decode cL_build 63 = .ok (.getfield 22, 3) := by decide +kernel
theorem dL_build_66 : decode cL_build 66 = .ok (.iconst 1, 1) := by decide +kernel
theorem dL_build_67 : decode cL_build 67 = .ok (.iadd, 1) := by decide +kernel
theorem dL_build_68 : decode cL_build 68 = .ok (.invokestatic 18, 3) := by decide +kernel
theorem dL_build_71 : decode cL_build 71 = .ok (.putfield 26, 3) := by decide +kernel
theorem dL_build_74 : decode cL_build 74 = .ok (.aload_n 0, 1) := by decide +kernel
theorem dL_build_75 : decode cL_build 75 = .ok (.aload_n 2, 1) := by decide +kernel
theorem dL_build_76 : decode cL_build 76 = .ok (.getfield 22, 3) := by decide +kernel
theorem dL_build_79 : decode cL_build 79 = .ok (.aload_n 2, 1) := by decide +kernel
theorem dL_build_80 : decode cL_build 80 = .ok (.getfield 26, 3) := by decide +kernel
theorem dL_build_83 : decode cL_build 83 = .ok (.invokevirtual 29, 3) := by decide +kernel
theorem dL_build_86 : decode cL_build 86 = .ok (.sipush 4001, 3) := by decide +kernel
theorem dL_build_89 : decode cL_build 89 = .ok (.if_icmp .eq 5, 3) := by decide +kernel
theorem dL_build_92 : decode cL_build 92 = .ok (.aconst_null, 1) := by decide +kernel
theorem dL_build_93 : decode cL_build 93 = .ok (.areturn, 1) := by decide +kernel
theorem dL_build_94 : decode cL_build 94 = .ok (.aload_n 1, 1) := by decide +kernel
theorem dL_build_95 : decode cL_build 95 = .ok (.iconst 0, 1) := by decide +kernel
theorem dL_build_96 : decode cL_build 96 = .ok (.invokestatic 12, 3) := by decide +kernel
theorem dL_build_99 : decode cL_build 99 = .ok (.iconst 3, 1) := by decide +kernel
theorem dL_build_100 : decode cL_build 100 = .ok (.ishr, 1) := by decide +kernel
theorem dL_build_101 : decode cL_build 101 = .ok (.iconst 3, 1) := by decide +kernel
theorem dL_build_102 : decode cL_build 102 = .ok (.invokestatic 18, 3) := by decide +kernel
theorem dL_build_105 : decode cL_build 105 = .ok (.ifCond .le 56, 3) := by decide +kernel
theorem dL_build_108 : decode cL_build 108 = .ok (.aload_n 2, 1) := by decide +kernel
theorem dL_build_109 : decode cL_build 109 = .ok (.sipush 20000, 3) := by decide +kernel
theorem dL_build_112 : decode cL_build 112 = .ok (.aload_n 1, 1) := by decide +kernel
theorem dL_build_113 : decode cL_build 113 = .ok (.iconst 3, 1) := by decide +kernel
theorem dL_build_114 : decode cL_build 114 = .ok (.invokestatic 12, 3) := by decide +kernel
theorem dL_build_117 : decode cL_build 117 = .ok (.sipush 20001, 3) := by decide +kernel
theorem dL_build_120 : decode cL_build 120 = .ok (.invokestatic 18, 3) := by decide +kernel
theorem dL_build_123 : decode cL_build 123 = .ok (.iadd, 1) := by decide +kernel
theorem dL_build_124 : decode cL_build 124 = .ok (.putfield 34, 3) := by decide +kernel
theorem dL_build_127 : decode cL_build 127 = .ok (.aload_n 2, 1) := by decide +kernel
theorem dL_build_128 : decode cL_build 128 = .ok (.aload_n 1, 1) := by decide +kernel
theorem dL_build_129 : decode cL_build 129 = .ok (.iconst 4, 1) := by decide +kernel
theorem dL_build_130 : decode cL_build 130 = .ok (.invokestatic 12, 3) := by decide +kernel
theorem dL_build_133 : decode cL_build 133 = .ok (.ldc 37, 2) := by decide +kernel
theorem dL_build_135 : decode cL_build 135 = .ok (.invokestatic 18, 3) := by decide +kernel
theorem dL_build_138 : decode cL_build 138 = .ok (.putfield 38, 3) := by decide +kernel
theorem dL_build_141 : decode cL_build 141 = .ok (.aload_n 0, 1) := by decide +kernel
theorem dL_build_142 : decode cL_build 142 = .ok (.aload_n 2, 1) := by decide +kernel
theorem dL_build_143 : decode cL_build 143 = .ok (.getfield 34, 3) := by decide +kernel
theorem dL_build_146 : decode cL_build 146 = .ok (.aload_n 2, 1) := by decide +kernel
theorem dL_build_147 : decode cL_build 147 = .ok (.getfield 38, 3) := by decide +kernel
theorem dL_build_150 : decode cL_build 150 = .ok (.invokevirtual 41, 3) := by decide +kernel
theorem dL_build_153 : decode cL_build 153 = .ok (.sipush 29531, 3) := by decide +kernel
theorem dL_build_156 : decode cL_build 156 = .ok (.if_icmp .eq 5, 3) := by decide +kernel
theorem dL_build_159 : decode cL_build 159 = .ok (.aconst_null, 1) := by decide +kernel
theorem dL_build_160 : decode cL_build 160 = .ok (.areturn, 1) := by decide +kernel
theorem dL_build_161 : decode cL_build 161 = .ok (.aload_n 1, 1) := by decide +kernel
theorem dL_build_162 : decode cL_build 162 = .ok (.iconst 0, 1) := by decide +kernel
theorem dL_build_163 : decode cL_build 163 = .ok (.invokestatic 12, 3) := by decide +kernel
theorem dL_build_166 : decode cL_build 166 = .ok (.iconst 5, 1) := by decide +kernel
theorem dL_build_167 : decode cL_build 167 = .ok (.ishr, 1) := by decide +kernel
theorem dL_build_168 : decode cL_build 168 = .ok (.iconst 3, 1) := by decide +kernel
theorem dL_build_169 : decode cL_build 169 = .ok (.invokestatic 18, 3) := by decide +kernel
theorem dL_build_172 : decode cL_build 172 = .ok (.ifCond .le 54, 3) := by decide +kernel
theorem dL_build_175 : decode cL_build 175 = .ok (.aload_n 2, 1) := by decide +kernel
theorem dL_build_176 : decode cL_build 176 = .ok (.ldc 44, 2) := by decide +kernel
theorem dL_build_178 : decode cL_build 178 = .ok (.aload_n 1, 1) := by decide +kernel
theorem dL_build_179 : decode cL_build 179 = .ok (.iconst 5, 1) := by decide +kernel
theorem dL_build_180 : decode cL_build 180 = .ok (.invokestatic 12, 3) := by decide +kernel
theorem dL_build_183 : decode cL_build 183 = .ok (.ldc 45, 2) := by decide +kernel
theorem dL_build_185 : decode cL_build 185 = .ok (.invokestatic 18, 3) := by decide +kernel
theorem dL_build_188 : decode cL_build 188 = .ok (.iadd, 1) := by decide +kernel
theorem dL_build_189 : decode cL_build 189 = .ok (.putfield 46, 3) := by decide +kernel
theorem dL_build_192 : decode cL_build 192 = .ok (.aload_n 2, 1) := by decide +kernel
theorem dL_build_193 : decode cL_build 193 = .ok (.aload_n 1, 1) := by decide +kernel
theorem dL_build_194 : decode cL_build 194 = .ok (.bipush 6, 2) := by decide +kernel
theorem dL_build_196 : decode cL_build 196 = .ok (.invokestatic 12, 3) := by decide +kernel
theorem dL_build_199 : decode cL_build 199 = .ok (.ldc 49, 2) := by decide +kernel
theorem dL_build_201 : decode cL_build 201 = .ok (.invokestatic 18, 3) := by decide +kernel
theorem dL_build_204 : decode cL_build 204 = .ok (.putfield 50, 3) := by decide +kernel
theorem dL_build_207 : decode cL_build 207 = .ok (.aload_n 0, 1) := by decide +kernel
theorem dL_build_208 : decode cL_build 208 = .ok (.aload_n 2, 1) := by decide +kernel
theorem dL_build_209 : decode cL_build 209 = .ok (.getfield 46, 3) := by decide +kernel
theorem dL_build_212 : decode cL_build 212 = .ok (.aload_n 2, 1) := by decide +kernel
theorem dL_build_213 : decode cL_build 213 = .ok (.getfield 50, 3) := by decide +kernel
theorem dL_build_216 : decode cL_build 216 = .ok (.invokevirtual 53, 3) := by decide +kernel
theorem dL_build_219 : decode cL_build 219 = .ok (.ldc 56, 2) := by decide +kernel
theorem dL_build_221 : decode cL_build 221 = .ok (.if_icmp .eq 5, 3) := by decide +kernel
theorem dL_build_224 : decode cL_build 224 = .ok (.aconst_null, 1) := by decide +kernel
theorem dL_build_225 : decode cL_build 225 = .ok (.areturn, 1) := by decide +kernel
theorem dL_build_226 : decode cL_build 226 = .ok (.aload_n 2, 1) := by decide +kernel
theorem dL_build_227 : decode cL_build 227 = .ok (.areturn, 1) := by decide +kernel
theorem dL_act_0 : decode cL_act 0 = .ok (.iload_n 2, 1) := by decide +kernel
theorem dL_act_1 : decode cL_act 1 = .ok (.bipush 9, 2) := by decide +kernel
theorem dL_act_3 : decode cL_act 3 = .ok (.ishr, 1) := by decide +kernel
theorem dL_act_4 : decode cL_act 4 = .ok (.bipush 8, 2) := by decide +kernel
theorem dL_act_6 : decode cL_act 6 = .ok (.invokestatic 18, 3) := by decide +kernel
theorem dL_act_9 : decode cL_act 9 = .ok (.tableswitch 486 0 6 #[43, 43, 163, 163, 238, 315, 430], 43) := by decide +kernel
theorem dL_act_52 : decode cL_act 52 = .ok (.aload_n 1, 1) := by decide +kernel
theorem dL_act_53 : decode cL_act 53 = .ok (.getfield 57, 3) := by decide +kernel
theorem dL_act_56 : decode cL_act 56 = .ok (.arraylength, 1) := by decide +kernel
theorem dL_act_57 : decode cL_act 57 = .ok (.bipush 8, 2) := by decide +kernel
theorem dL_act_59 : decode cL_act 59 = .ok (.if_icmp .ne 5, 3) := by decide +kernel
theorem dL_act_62 : decode cL_act 62 = .ok (.iconst 1, 1) := by decide +kernel
theorem dL_act_63 : decode cL_act 63 = .ok (.ireturn, 1) := by decide +kernel
theorem dL_act_64 : decode cL_act 64 = .ok (.iconst 5, 1) := by decide +kernel
theorem dL_act_65 : decode cL_act 65 = .ok (.newarray .int, 2) := by decide +kernel
theorem dL_act_67 : decode cL_act 67 = .ok (.dup, 1) := by decide +kernel
theorem dL_act_68 : decode cL_act 68 = .ok (.iconst 0, 1) := by decide +kernel
theorem dL_act_69 : decode cL_act 69 = .ok (.iload_n 2, 1) := by decide +kernel
theorem dL_act_70 : decode cL_act 70 = .ok (.bipush 12, 2) := by decide +kernel
theorem dL_act_72 : decode cL_act 72 = .ok (.invokestatic 18, 3) := by decide +kernel
theorem dL_act_75 : decode cL_act 75 = .ok (.iastore, 1) := by decide +kernel
theorem dL_act_76 : decode cL_act 76 = .ok (.dup, 1) := by decide +kernel
theorem dL_act_77 : decode cL_act 77 = .ok (.iconst 1, 1) := by decide +kernel
theorem dL_act_78 : decode cL_act 78 = .ok (.iload_n 2, 1) := by decide +kernel
theorem dL_act_79 : decode cL_act 79 = .ok (.iconst 2, 1) := by decide +kernel
theorem dL_act_80 : decode cL_act 80 = .ok (.ishr, 1) := by decide +kernel
theorem dL_act_81 : decode cL_act 81 = .ok (.bipush 30, 2) := by decide +kernel
theorem dL_act_83 : decode cL_act 83 = .ok (.invokestatic 18, 3) := by decide +kernel
theorem dL_act_86 : decode cL_act 86 = .ok (.iastore, 1) := by decide +kernel
theorem dL_act_87 : decode cL_act 87 = .ok (.dup, 1) := by decide +kernel
theorem dL_act_88 : decode cL_act 88 = .ok (.iconst 2, 1) := by decide +kernel
theorem dL_act_89 : decode cL_act 89 = .ok (.iload_n 2, 1) := by decide +kernel
theorem dL_act_90 : decode cL_act 90 = .ok (.iconst 4, 1) := by decide +kernel
theorem dL_act_91 : decode cL_act 91 = .ok (.ishr, 1) := by decide +kernel
theorem dL_act_92 : decode cL_act 92 = .ok (.iconst 4, 1) := by decide +kernel
theorem dL_act_93 : decode cL_act 93 = .ok (.invokestatic 18, 3) := by decide +kernel
theorem dL_act_96 : decode cL_act 96 = .ok (.iastore, 1) := by decide +kernel
theorem dL_act_97 : decode cL_act 97 = .ok (.dup, 1) := by decide +kernel
theorem dL_act_98 : decode cL_act 98 = .ok (.iconst 3, 1) := by decide +kernel
theorem dL_act_99 : decode cL_act 99 = .ok (.iload_n 2, 1) := by decide +kernel
theorem dL_act_100 : decode cL_act 100 = .ok (.iconst 3, 1) := by decide +kernel
theorem dL_act_101 : decode cL_act 101 = .ok (.ishr, 1) := by decide +kernel
theorem dL_act_102 : decode cL_act 102 = .ok (.bipush 8, 2) := by decide +kernel
theorem dL_act_104 : decode cL_act 104 = .ok (.invokestatic 18, 3) := by decide +kernel
theorem dL_act_107 : decode cL_act 107 = .ok (.iconst 1, 1) := by decide +kernel
theorem dL_act_108 : decode cL_act 108 = .ok (.isub, 1) := by decide +kernel
theorem dL_act_109 : decode cL_act 109 = .ok (.iastore, 1) := by decide +kernel
theorem dL_act_110 : decode cL_act 110 = .ok (.dup, 1) := by decide +kernel
theorem dL_act_111 : decode cL_act 111 = .ok (.iconst 4, 1) := by decide +kernel
theorem dL_act_112 : decode cL_act 112 = .ok (.iload_n 2, 1) := by decide +kernel
theorem dL_act_113 : decode cL_act 113 = .ok (.iconst 5, 1) := by decide +kernel
theorem dL_act_114 : decode cL_act 114 = .ok (.ishr, 1) := by decide +kernel
theorem dL_act_115 : decode cL_act 115 = .ok (.bipush 121, 2) := by decide +kernel
theorem dL_act_117 : decode cL_act 117 = .ok (.invokestatic 18, 3) := by decide +kernel
theorem dL_act_120 : decode cL_act 120 = .ok (.bipush 60, 2) := by decide +kernel
theorem dL_act_122 : decode cL_act 122 = .ok (.isub, 1) := by decide +kernel
theorem dL_act_123 : decode cL_act 123 = .ok (.iastore, 1) := by decide +kernel
theorem dL_act_124 : decode cL_act 124 = .ok (.astore_n 3, 1) := by decide +kernel
theorem dL_act_125 : decode cL_act 125 = .ok (.aload_n 1, 1) := by decide +kernel
theorem dL_act_126 : decode cL_act 126 = .ok (.aload_n 1, 1) := by decide +kernel
theorem dL_act_127 : decode cL_act 127 = .ok (.getfield 57, 3) := by decide +kernel
theorem dL_act_130 : decode cL_act 130 = .ok (.aload_n 3, 1) := by decide +kernel
theorem dL_act_131 : decode cL_act 131 = .ok (.invokestatic 61, 3) := by decide +kernel
theorem dL_act_134 : decode cL_act 134 = .ok (.putfield 57, 3) := by decide +kernel
theorem dL_act_137 : decode cL_act 137 = .ok (.aload_n 0, 1) := by decide +kernel
theorem dL_act_138 : decode cL_act 138 = .ok (.aload_n 3, 1) := by decide +kernel
theorem dL_act_139 : decode cL_act 139 = .ok (.iconst 0, 1) := by decide +kernel
theorem dL_act_140 : decode cL_act 140 = .ok (.iaload, 1) := by decide +kernel
theorem dL_act_141 : decode cL_act 141 = .ok (.aload_n 3, 1) := by decide +kernel
theorem dL_act_142 : decode cL_act 142 = .ok (.iconst 1, 1) := by decide +kernel
theorem dL_act_143 : decode cL_act 143 = .ok (.iaload, 1) := by decide +kernel
theorem dL_act_144 : decode cL_act 144 = .ok (.aload_n 3, 1) := by decide +kernel
theorem dL_act_145 : decode cL_act 145 = .ok (.iconst 2, 1) := by decide +kernel
theorem dL_act_146 : decode cL_act 146 = .ok (.iaload, 1) := by decide +kernel
theorem dL_act_147 : decode cL_act 147 = .ok (.aload_n 3, 1) := by decide +kernel
theorem dL_act_148 : decode cL_act 148 = .ok (.iconst 3, 1) := by decide +kernel
theorem dL_act_149 : decode cL_act 149 = .ok (.iaload, 1) := by decide +kernel
theorem dL_act_150 : decode cL_act 150 = .ok (.aload_n 3, 1) := by decide +kernel
theorem dL_act_151 : decode cL_act 151 = .ok (.iconst 4, 1) := by decide +kernel
theorem dL_act_152 : decode cL_act 152 = .ok (.iaload, 1) := by decide +kernel
theorem dL_act_153 : decode cL_act 153 = .ok (.invokevirtual 65, 3) := by decide +kernel
theorem dL_act_156 : decode cL_act 156 = .ok (.aload_n 1, 1) := by decide +kernel
theorem dL_act_157 : decode cL_act 157 = .ok (.getfield 57, 3) := by decide +kernel
theorem dL_act_160 : decode cL_act 160 = .ok (.arraylength, 1) := by decide +kernel
theorem dL_act_161 : decode cL_act 161 = .ok (.iconst 1, 1) := by decide +kernel
theorem dL_act_162 : decode cL_act 162 = .ok (.isub, 1) := by decide +kernel
theorem dL_act_163 : decode cL_act 163 = .ok (.if_icmp .ne 7, 3) := by decide +kernel
theorem dL_act_166 : decode cL_act 166 = .ok (.iconst 1, 1) := by decide +kernel
theorem dL_act_167 : decode cL_act 167 = .ok (.goto 4, 3) := by decide +kernel
theorem dL_act_170 : decode cL_act 170 = .ok (.iconst 0, 1) := by decide +kernel
theorem dL_act_171 : decode cL_act 171 = .ok (.ireturn, 1) := by decide +kernel
theorem dL_act_172 : decode cL_act 172 = .ok (.iload_n 2, 1) := by decide +kernel
theorem dL_act_173 : decode cL_act 173 = .ok (.iload_n 2, 1) := by decide +kernel
theorem dL_act_174 : decode cL_act 174 = .ok (.iconst 5, 1) := by decide +kernel
theorem dL_act_175 : decode cL_act 175 = .ok (.ishr, 1) := by decide +kernel
theorem dL_act_176 : decode cL_act 176 = .ok (.iconst 2, 1) := by decide +kernel
theorem dL_act_177 : decode cL_act 177 = .ok (.invokestatic 18, 3) := by decide +kernel
theorem dL_act_180 : decode cL_act 180 = .ok (.ifCond .ne 9, 3) := by decide +kernel
theorem dL_act_183 : decode cL_act 183 = .ok (.sipush 1000, 3) := by decide +kernel
theorem dL_act_186 : decode cL_act 186 = .ok (.goto 5, 3) := by decide +kernel
theorem dL_act_189 : decode cL_act 189 = .ok (.bipush 9, 2) := by decide +kernel
theorem dL_act_191 : decode cL_act 191 = .ok (.invokestatic 18, 3) := by decide +kernel
theorem dL_act_194 : decode cL_act 194 = .ok (.istore 4, 2) := by decide +kernel
theorem dL_act_196 : decode cL_act 196 = .ok (.aload_n 1, 1) := by decide +kernel
theorem dL_act_197 : decode cL_act 197 = .ok (.getfield 69, 3) := by decide +kernel
theorem dL_act_200 : decode cL_act 200 = .ok (.arraylength, 1) := by decide +kernel
theorem dL_act_201 : decode cL_act 201 = .ok (.bipush 10, 2) := by decide +kernel
theorem dL_act_203 : decode cL_act 203 = .ok (.if_icmp .ne 5, 3) := by decide +kernel
theorem dL_act_206 : decode cL_act 206 = .ok (.iconst 1, 1) := by decide +kernel
theorem dL_act_207 : decode cL_act 207 = .ok (.ireturn, 1) := by decide +kernel
theorem dL_act_208 : decode cL_act 208 = .ok (.aload_n 1, 1) := by decide +kernel
theorem dL_act_209 : decode cL_act 209 = .ok (.aload_n 1, 1) := by decide +kernel
theorem dL_act_210 : decode cL_act 210 = .ok (.getfield 69, 3) := by decide +kernel
theorem dL_act_213 : decode cL_act 213 = .ok (.aload_n 1, 1) := by decide +kernel
theorem dL_act_214 : decode cL_act 214 = .ok (.iload 4, 2) := by decide +kernel
theorem dL_act_216 : decode cL_act 216 = .ok (.invokevirtual 72, 3) := by decide +kernel
theorem dL_act_219 : decode cL_act 219 = .ok (.invokestatic 61, 3) := by decide +kernel
theorem dL_act_222 : decode cL_act 222 = .ok (.putfield 69, 3) := by decide +kernel
theorem dL_act_225 : decode cL_act 225 = .ok (.aload_n 0, 1) := by decide +kernel
theorem dL_act_226 : decode cL_act 226 = .ok (.iload 4, 2) := by decide +kernel
theorem dL_act_228 : decode cL_act 228 = .ok (.invokevirtual 76, 3) := by decide +kernel
theorem dL_act_231 : decode cL_act 231 = .ok (.aload_n 1, 1) := by decide +kernel
theorem dL_act_232 : decode cL_act 232 = .ok (.getfield 69, 3) := by decide +kernel
theorem dL_act_235 : decode cL_act 235 = .ok (.arraylength, 1) := by decide +kernel
theorem dL_act_236 : decode cL_act 236 = .ok (.iconst 1, 1) := by decide +kernel
theorem dL_act_237 : decode cL_act 237 = .ok (.isub, 1) := by decide +kernel
theorem dL_act_238 : decode cL_act 238 = .ok (.if_icmp .ne 7, 3) := by decide +kernel
theorem dL_act_241 : decode cL_act 241 = .ok (.iconst 1, 1) := by decide +kernel
theorem dL_act_242 : decode cL_act 242 = .ok (.goto 4, 3) := by decide +kernel
theorem dL_act_245 : decode cL_act 245 = .ok (.iconst 0, 1) := by decide +kernel
theorem dL_act_246 : decode cL_act 246 = .ok (.ireturn, 1) := by decide +kernel
theorem dL_act_247 : decode cL_act 247 = .ok (.aload_n 1, 1) := by decide +kernel
theorem dL_act_248 : decode cL_act 248 = .ok (.getfield 69, 3) := by decide +kernel
theorem dL_act_251 : decode cL_act 251 = .ok (.arraylength, 1) := by decide +kernel
theorem dL_act_252 : decode cL_act 252 = .ok (.ifCond .ne 5, 3) := by decide +kernel
theorem dL_act_255 : decode cL_act 255 = .ok (.iconst 1, 1) := by decide +kernel
theorem dL_act_256 : decode cL_act 256 = .ok (.ireturn, 1) := by decide +kernel
theorem dL_act_257 : decode cL_act 257 = .ok (.iload_n 2, 1) := by decide +kernel
theorem dL_act_258 : decode cL_act 258 = .ok (.iconst 2, 1) := by decide +kernel
theorem dL_act_259 : decode cL_act 259 = .ok (.ishr, 1) := by decide +kernel
theorem dL_act_260 : decode cL_act 260 = .ok (.aload_n 1, 1) := by decide +kernel
theorem dL_act_261 : decode cL_act 261 = .ok (.getfield 69, 3) := by decide +kernel
theorem dL_act_264 : decode cL_act 264 = .ok (.arraylength, 1) := by decide +kernel
theorem dL_act_265 : decode cL_act 265 = .ok (.invokestatic 18, 3) := by decide +kernel
theorem dL_act_268 : decode cL_act 268 = .ok (.istore 5, 2) := by decide +kernel
theorem dL_act_270 : decode cL_act 270 = .ok (.aload_n 1, 1) := by decide +kernel
theorem dL_act_271 : decode cL_act 271 = .ok (.aload_n 1, 1) := by decide +kernel
theorem dL_act_272 : decode cL_act 272 = .ok (.getfield 69, 3) := by decide +kernel
theorem dL_act_275 : decode cL_act 275 = .ok (.iload 5, 2) := by decide +kernel
theorem dL_act_277 : decode cL_act 277 = .ok (.aaload, 1) := by decide +kernel
theorem dL_act_278 : decode cL_act 278 = .ok (.invokevirtual 80, 3) := by decide +kernel
theorem dL_act_281 : decode cL_act 281 = .ok (.sipush 1000, 3) := by decide +kernel
theorem dL_act_284 : decode cL_act 284 = .ok (.irem, 1) := by decide +kernel
theorem dL_act_285 : decode cL_act 285 = .ok (.istore 6, 2) := by decide +kernel
theorem dL_act_287 : decode cL_act 287 = .ok (.aload_n 1, 1) := by decide +kernel
theorem dL_act_288 : decode cL_act 288 = .ok (.getfield 69, 3) := by decide +kernel
theorem dL_act_291 : decode cL_act 291 = .ok (.iload 5, 2) := by decide +kernel
theorem dL_act_293 : decode cL_act 293 = .ok (.aload_n 1, 1) := by decide +kernel
theorem dL_act_294 : decode cL_act 294 = .ok (.aload_n 1, 1) := by decide +kernel
theorem dL_act_295 : decode cL_act 295 = .ok (.getfield 69, 3) := by decide +kernel
theorem dL_act_298 : decode cL_act 298 = .ok (.iload 5, 2) := by decide +kernel
