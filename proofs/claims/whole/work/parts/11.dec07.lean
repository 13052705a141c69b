theorem dX7_bitsOf_135 : decode cX7_bitsOf 135 = .ok (.lstore_n 2, 1) := by decide +kernel
theorem dX7_bitsOf_136 : decode cX7_bitsOf 136 = .ok (.iinc 10 1, 3) := by decide +kernel
theorem dX7_bitsOf_139 : decode cX7_bitsOf 139 = .ok (.goto (-51), 3) := by decide +kernel
theorem dX7_bitsOf_142 : decode cX7_bitsOf 142 = .ok (.lload_n 2, 1) := by decide +kernel
theorem dX7_bitsOf_143 : decode cX7_bitsOf 143 = .ok (.lload 4, 2) := by decide +kernel
theorem dX7_bitsOf_145 : decode cX7_bitsOf 145 = .ok (.lcmp, 1) := by decide +kernel
theorem dX7_bitsOf_146 : decode cX7_bitsOf 146 = .ok (.ifCond .gt 21, 3) := by decide +kernel
theorem dX7_bitsOf_149 : decode cX7_bitsOf 149 = .ok (.lload_n 2, 1) := by decide +kernel
theorem dX7_bitsOf_150 : decode cX7_bitsOf 150 = .ok (.lload 4, 2) := by decide +kernel
theorem dX7_bitsOf_152 : decode cX7_bitsOf 152 = .ok (.lcmp, 1) := by decide +kernel
theorem dX7_bitsOf_153 : decode cX7_bitsOf 153 = .ok (.ifCond .ne 20, 3) := by decide +kernel
theorem dX7_bitsOf_156 : decode cX7_bitsOf 156 = .ok (.lload 8, 2) := by decide +kernel
theorem dX7_bitsOf_158 : decode cX7_bitsOf 158 = .ok (.ldc2_w 102, 3) := by decide +kernel
theorem dX7_bitsOf_161 : decode cX7_bitsOf 161 = .ok (.lrem, 1) := by decide +kernel
theorem dX7_bitsOf_162 : decode cX7_bitsOf 162 = .ok (.lconst 1, 1) := by decide +kernel
theorem dX7_bitsOf_163 : decode cX7_bitsOf 163 = .ok (.lcmp, 1) := by decide +kernel
theorem dX7_bitsOf_164 : decode cX7_bitsOf 164 = .ok (.ifCond .ne 9, 3) := by decide +kernel
theorem dX7_bitsOf_167 : decode cX7_bitsOf 167 = .ok (.lload 8, 2) := by decide +kernel
theorem dX7_bitsOf_169 : decode cX7_bitsOf 169 = .ok (.lconst 1, 1) := by decide +kernel
theorem dX7_bitsOf_170 : decode cX7_bitsOf 170 = .ok (.ladd, 1) := by decide +kernel
theorem dX7_bitsOf_171 : decode cX7_bitsOf 171 = .ok (.lstore 8, 2) := by decide +kernel
theorem dX7_bitsOf_173 : decode cX7_bitsOf 173 = .ok (.lload 8, 2) := by decide +kernel
theorem dX7_bitsOf_175 : decode cX7_bitsOf 175 = .ok (.ldc2_w 171, 3) := by decide +kernel
theorem dX7_bitsOf_178 : decode cX7_bitsOf 178 = .ok (.lcmp, 1) := by decide +kernel
theorem dX7_bitsOf_179 : decode cX7_bitsOf 179 = .ok (.ifCond .ne 14, 3) := by decide +kernel
theorem dX7_bitsOf_182 : decode cX7_bitsOf 182 = .ok (.ldc2_w 91, 3) := by decide +kernel
theorem dX7_bitsOf_185 : decode cX7_bitsOf 185 = .ok (.lstore 8, 2) := by decide +kernel
theorem dX7_bitsOf_187 : decode cX7_bitsOf 187 = .ok (.lload 6, 2) := by decide +kernel
theorem dX7_bitsOf_189 : decode cX7_bitsOf 189 = .ok (.lconst 1, 1) := by decide +kernel
theorem dX7_bitsOf_190 : decode cX7_bitsOf 190 = .ok (.ladd, 1) := by decide +kernel
theorem dX7_bitsOf_191 : decode cX7_bitsOf 191 = .ok (.lstore 6, 2) := by decide +kernel
theorem dX7_bitsOf_193 : decode cX7_bitsOf 193 = .ok (.lload 6, 2) := by decide +kernel
theorem dX7_bitsOf_195 : decode cX7_bitsOf 195 = .ok (.ldc2_w 173, 3) := by decide +kernel
theorem dX7_bitsOf_198 : decode cX7_bitsOf 198 = .ok (.ladd, 1) := by decide +kernel
theorem dX7_bitsOf_199 : decode cX7_bitsOf 199 = .ok (.bipush 52, 2) := by decide +kernel
theorem dX7_bitsOf_201 : decode cX7_bitsOf 201 = .ok (.lshl, 1) := by decide +kernel
theorem dX7_bitsOf_202 : decode cX7_bitsOf 202 = .ok (.lload 8, 2) := by decide +kernel
theorem dX7_bitsOf_204 : decode cX7_bitsOf 204 = .ok (.ldc2_w 91, 3) := by decide +kernel
theorem dX7_bitsOf_207 : decode cX7_bitsOf 207 = .ok (.lsub, 1) := by decide +kernel
theorem dX7_bitsOf_208 : decode cX7_bitsOf 208 = .ok (.lor, 1) := by decide +kernel
theorem dX7_bitsOf_209 : decode cX7_bitsOf 209 = .ok (.lstore 10, 2) := by decide +kernel
theorem dX7_bitsOf_211 : decode cX7_bitsOf 211 = .ok (.iload_n 1, 1) := by decide +kernel
theorem dX7_bitsOf_212 : decode cX7_bitsOf 212 = .ok (.ifCond .ge 12, 3) := by decide +kernel
theorem dX7_bitsOf_215 : decode cX7_bitsOf 215 = .ok (.lload 10, 2) := by decide +kernel
theorem dX7_bitsOf_217 : decode cX7_bitsOf 217 = .ok (.ldc2_w 175, 3) := by decide +kernel
theorem dX7_bitsOf_220 : decode cX7_bitsOf 220 = .ok (.lor, 1) := by decide +kernel
theorem dX7_bitsOf_221 : decode cX7_bitsOf 221 = .ok (.goto 5, 3) := by decide +kernel
theorem dX7_bitsOf_224 : decode cX7_bitsOf 224 = .ok (.lload 10, 2) := by decide +kernel
theorem dX7_bitsOf_226 : decode cX7_bitsOf 226 = .ok (.lreturn, 1) := by decide +kernel
theorem dX7_writePoints_0 : decode cX7_writePoints 0 = .ok (.iconst 2, 1) := by decide +kernel
theorem dX7_writePoints_1 : decode cX7_writePoints 1 = .ok (.sipush 4096, 3) := by decide +kernel
theorem dX7_writePoints_4 : decode cX7_writePoints 4 = .ok (.iload_n 1, 1) := by decide +kernel
theorem dX7_writePoints_5 : decode cX7_writePoints 5 = .ok (.imul, 1) := by decide +kernel
theorem dX7_writePoints_6 : decode cX7_writePoints 6 = .ok (.iload_n 2, 1) := by decide +kernel
theorem dX7_writePoints_7 : decode cX7_writePoints 7 = .ok (.iadd, 1) := by decide +kernel
theorem dX7_writePoints_8 : decode cX7_writePoints 8 = .ok (.imul, 1) := by decide +kernel
theorem dX7_writePoints_9 : decode cX7_writePoints 9 = .ok (.istore 4, 2) := by decide +kernel
theorem dX7_writePoints_11 : decode cX7_writePoints 11 = .ok (.iload 4, 2) := by decide +kernel
theorem dX7_writePoints_13 : decode cX7_writePoints 13 = .ok (.iconst 2, 1) := by decide +kernel
theorem dX7_writePoints_14 : decode cX7_writePoints 14 = .ok (.sipush 4096, 3) := by decide +kernel
theorem dX7_writePoints_17 : decode cX7_writePoints 17 = .ok (.iload_n 1, 1) := by decide +kernel
theorem dX7_writePoints_18 : decode cX7_writePoints 18 = .ok (.imul, 1) := by decide +kernel
theorem dX7_writePoints_19 : decode cX7_writePoints 19 = .ok (.iload_n 2, 1) := by decide +kernel
theorem dX7_writePoints_20 : decode cX7_writePoints 20 = .ok (.iadd, 1) := by decide +kernel
theorem dX7_writePoints_21 : decode cX7_writePoints 21 = .ok (.iload_n 3, 1) := by decide +kernel
theorem dX7_writePoints_22 : decode cX7_writePoints 22 = .ok (.iadd, 1) := by decide +kernel
theorem dX7_writePoints_23 : decode cX7_writePoints 23 = .ok (.imul, 1) := by decide +kernel
theorem dX7_writePoints_24 : decode cX7_writePoints 24 = .ok (.if_icmp .ge 26, 3) := by decide +kernel
theorem dX7_writePoints_27 : decode cX7_writePoints 27 = .ok (.aload_n 0, 1) := by decide +kernel
theorem dX7_writePoints_28 : decode cX7_writePoints 28 = .ok (.aload_n 0, 1) := by decide +kernel
theorem dX7_writePoints_29 : decode cX7_writePoints 29 = .ok (.aload_n 0, 1) := by decide +kernel
theorem dX7_writePoints_30 : decode cX7_writePoints 30 = .ok (.getfield 21, 3) := by decide +kernel
theorem dX7_writePoints_33 : decode cX7_writePoints 33 = .ok (.iload 4, 2) := by decide +kernel
theorem dX7_writePoints_35 : decode cX7_writePoints 35 = .ok (.iaload, 1) := by decide +kernel
theorem dX7_writePoints_36 : decode cX7_writePoints 36 = .ok (.invokevirtual 177, 3) := by decide +kernel
theorem dX7_writePoints_39 : decode cX7_writePoints 39 = .ok (.bipush 8, 2) := by decide +kernel
theorem dX7_writePoints_41 : decode cX7_writePoints 41 = .ok (.invokevirtual 181, 3) := by decide +kernel
theorem dX7_writePoints_44 : decode cX7_writePoints 44 = .ok (.iinc 4 1, 3) := by decide +kernel
theorem dX7_writePoints_47 : decode cX7_writePoints 47 = .ok (.goto (-36), 3) := by decide +kernel
theorem dX7_writePoints_50 : decode cX7_writePoints 50 = .ok (.iload_n 2, 1) := by decide +kernel
theorem dX7_writePoints_51 : decode cX7_writePoints 51 = .ok (.iload_n 3, 1) := by decide +kernel
theorem dX7_writePoints_52 : decode cX7_writePoints 52 = .ok (.iadd, 1) := by decide +kernel
theorem dX7_writePoints_53 : decode cX7_writePoints 53 = .ok (.ireturn, 1) := by decide +kernel
theorem dX7_write_0 : decode cX7_write 0 = .ok (.aload_n 0, 1) := by decide +kernel
theorem dX7_write_1 : decode cX7_write 1 = .ok (.iconst 0, 1) := by decide +kernel
theorem dX7_write_2 : decode cX7_write 2 = .ok (.putfield 48, 3) := by decide +kernel
theorem dX7_write_5 : decode cX7_write 5 = .ok (.iload_n 1, 1) := by decide +kernel
theorem dX7_write_6 : decode cX7_write 6 = .ok (.invokestatic 157, 3) := by decide +kernel
theorem dX7_write_9 : decode cX7_write 9 = .ok (.ifCond .ne 9, 3) := by decide +kernel
theorem dX7_write_12 : decode cX7_write 12 = .ok (.aload_n 0, 1) := by decide +kernel
theorem dX7_write_13 : decode cX7_write 13 = .ok (.iconst 1, 1) := by decide +kernel
theorem dX7_write_14 : decode cX7_write 14 = .ok (.invokevirtual 58, 3) := by decide +kernel
theorem dX7_write_17 : decode cX7_write 17 = .ok (.ireturn, 1) := by decide +kernel
theorem dX7_write_18 : decode cX7_write 18 = .ok (.iload_n 2, 1) := by decide +kernel
theorem dX7_write_19 : decode cX7_write 19 = .ok (.iconst 0, 1) := by decide +kernel
theorem dX7_write_20 : decode cX7_write 20 = .ok (.iconst 1, 1) := by decide +kernel
theorem dX7_write_21 : decode cX7_write 21 = .ok (.invokestatic 51, 3) := by decide +kernel
theorem dX7_write_24 : decode cX7_write 24 = .ok (.ifCond .ne 9, 3) := by decide +kernel
theorem dX7_write_27 : decode cX7_write 27 = .ok (.aload_n 0, 1) := by decide +kernel
theorem dX7_write_28 : decode cX7_write 28 = .ok (.iconst 2, 1) := by decide +kernel
theorem dX7_write_29 : decode cX7_write 29 = .ok (.invokevirtual 58, 3) := by decide +kernel
theorem dX7_write_32 : decode cX7_write 32 = .ok (.ireturn, 1) := by decide +kernel
theorem dX7_write_33 : decode cX7_write 33 = .ok (.aload_n 0, 1) := by decide +kernel
theorem dX7_write_34 : decode cX7_write 34 = .ok (.getfield 17, 3) := by decide +kernel
theorem dX7_write_37 : decode cX7_write 37 = .ok (.iload_n 1, 1) := by decide +kernel
theorem dX7_write_38 : decode cX7_write 38 = .ok (.iaload, 1) := by decide +kernel
theorem dX7_write_39 : decode cX7_write 39 = .ok (.ifCond .ne 9, 3) := by decide +kernel
theorem dX7_write_42 : decode cX7_write 42 = .ok (.aload_n 0, 1) := by decide +kernel
theorem dX7_write_43 : decode cX7_write 43 = .ok (.iconst 3, 1) := by decide +kernel
theorem dX7_write_44 : decode cX7_write 44 = .ok (.invokevirtual 58, 3) := by decide +kernel
theorem dX7_write_47 : decode cX7_write 47 = .ok (.ireturn, 1) := by decide +kernel
theorem dX7_write_48 : decode cX7_write 48 = .ok (.aload_n 0, 1) := by decide +kernel
theorem dX7_write_49 : decode cX7_write 49 = .ok (.iload_n 2, 1) := by decide +kernel
theorem dX7_write_50 : decode cX7_write 50 = .ok (.putfield 166, 3) := by decide +kernel
theorem dX7_write_53 : decode cX7_write 53 = .ok (.aload_n 0, 1) := by decide +kernel
theorem dX7_write_54 : decode cX7_write 54 = .ok (.iconst 0, 1) := by decide +kernel
theorem dX7_write_55 : decode cX7_write 55 = .ok (.putfield 163, 3) := by decide +kernel
theorem dX7_write_58 : decode cX7_write 58 = .ok (.sipush 4096, 3) := by decide +kernel
theorem dX7_write_61 : decode cX7_write 61 = .ok (.iload_n 1, 1) := by decide +kernel
theorem dX7_write_62 : decode cX7_write 62 = .ok (.imul, 1) := by decide +kernel
theorem dX7_write_63 : decode cX7_write 63 = .ok (.istore_n 3, 1) := by decide +kernel
theorem dX7_write_64 : decode cX7_write 64 = .ok (.iconst 0, 1) := by decide +kernel
theorem dX7_write_65 : decode cX7_write 65 = .ok (.istore 4, 2) := by decide +kernel
theorem dX7_write_67 : decode cX7_write 67 = .ok (.iload_n 3, 1) := by decide +kernel
theorem dX7_write_68 : decode cX7_write 68 = .ok (.sipush 4096, 3) := by decide +kernel
theorem dX7_write_71 : decode cX7_write 71 = .ok (.iload_n 1, 1) := by decide +kernel
theorem dX7_write_72 : decode cX7_write 72 = .ok (.imul, 1) := by decide +kernel
theorem dX7_write_73 : decode cX7_write 73 = .ok (.aload_n 0, 1) := by decide +kernel
theorem dX7_write_74 : decode cX7_write 74 = .ok (.getfield 17, 3) := by decide +kernel
theorem dX7_write_77 : decode cX7_write 77 = .ok (.iload_n 1, 1) := by decide +kernel
theorem dX7_write_78 : decode cX7_write 78 = .ok (.iaload, 1) := by decide +kernel
theorem dX7_write_79 : decode cX7_write 79 = .ok (.iadd, 1) := by decide +kernel
theorem dX7_write_80 : decode cX7_write 80 = .ok (.if_icmp .ge 157, 3) := by decide +kernel
theorem dX7_write_83 : decode cX7_write 83 = .ok (.aload_n 0, 1) := by decide +kernel
theorem dX7_write_84 : decode cX7_write 84 = .ok (.getfield 14, 3) := by decide +kernel
theorem dX7_write_87 : decode cX7_write 87 = .ok (.iload_n 3, 1) := by decide +kernel
theorem dX7_write_88 : decode cX7_write 88 = .ok (.iaload, 1) := by decide +kernel
theorem dX7_write_89 : decode cX7_write 89 = .ok (.istore 5, 2) := by decide +kernel
theorem dX7_write_91 : decode cX7_write 91 = .ok (.aload_n 0, 1) := by decide +kernel
theorem dX7_write_92 : decode cX7_write 92 = .ok (.getfield 14, 3) := by decide +kernel
theorem dX7_write_95 : decode cX7_write 95 = .ok (.iload_n 3, 1) := by decide +kernel
theorem dX7_write_96 : decode cX7_write 96 = .ok (.iconst 1, 1) := by decide +kernel
theorem dX7_write_97 : decode cX7_write 97 = .ok (.iadd, 1) := by decide +kernel
theorem dX7_write_98 : decode cX7_write 98 = .ok (.iaload, 1) := by decide +kernel
theorem dX7_write_99 : decode cX7_write 99 = .ok (.istore 6, 2) := by decide +kernel
theorem dX7_write_101 : decode cX7_write 101 = .ok (.iinc 3 2, 3) := by decide +kernel
theorem dX7_write_104 : decode cX7_write 104 = .ok (.aload_n 0, 1) := by decide +kernel
theorem dX7_write_105 : decode cX7_write 105 = .ok (.iload_n 2, 1) := by decide +kernel
theorem dX7_write_106 : decode cX7_write 106 = .ok (.i2l, 1) := by decide +kernel
theorem dX7_write_107 : decode cX7_write 107 = .ok (.iconst 1, 1) := by decide +kernel
theorem dX7_write_108 : decode cX7_write 108 = .ok (.invokevirtual 181, 3) := by decide +kernel
theorem dX7_write_111 : decode cX7_write 111 = .ok (.aload_n 0, 1) := by decide +kernel
theorem dX7_write_112 : decode cX7_write 112 = .ok (.iload 5, 2) := by decide +kernel
theorem dX7_write_114 : decode cX7_write 114 = .ok (.i2l, 1) := by decide +kernel
theorem dX7_write_115 : decode cX7_write 115 = .ok (.iconst 4, 1) := by decide +kernel
theorem dX7_write_116 : decode cX7_write 116 = .ok (.invokevirtual 181, 3) := by decide +kernel
theorem dX7_write_119 : decode cX7_write 119 = .ok (.iload 5, 2) := by decide +kernel
theorem dX7_write_121 : decode cX7_write 121 = .ok (.iconst 1, 1) := by decide +kernel
theorem dX7_write_122 : decode cX7_write 122 = .ok (.if_icmp .le 11, 3) := by decide +kernel
theorem dX7_write_125 : decode cX7_write 125 = .ok (.aload_n 0, 1) := by decide +kernel
theorem dX7_write_126 : decode cX7_write 126 = .ok (.iload 6, 2) := by decide +kernel
theorem dX7_write_128 : decode cX7_write 128 = .ok (.i2l, 1) := by decide +kernel
theorem dX7_write_129 : decode cX7_write 129 = .ok (.iconst 4, 1) := by decide +kernel
theorem dX7_write_130 : decode cX7_write 130 = .ok (.invokevirtual 181, 3) := by decide +kernel
theorem dX7_write_133 : decode cX7_write 133 = .ok (.iload 5, 2) := by decide +kernel
theorem dX7_write_135 : decode cX7_write 135 = .ok (.iconst 1, 1) := by decide +kernel
theorem dX7_write_136 : decode cX7_write 136 = .ok (.if_icmp .ne 29, 3) := by decide +kernel
theorem dX7_write_139 : decode cX7_write 139 = .ok (.iload 6, 2) := by decide +kernel
theorem dX7_write_141 : decode cX7_write 141 = .ok (.ifCond .ne 24, 3) := by decide +kernel
theorem dX7_write_144 : decode cX7_write 144 = .ok (.aload_n 0, 1) := by decide +kernel
theorem dX7_write_145 : decode cX7_write 145 = .ok (.ldc2_w 185, 3) := by decide +kernel
theorem dX7_write_148 : decode cX7_write 148 = .ok (.bipush 8, 2) := by decide +kernel
theorem dX7_write_150 : decode cX7_write 150 = .ok (.invokevirtual 181, 3) := by decide +kernel
theorem dX7_write_153 : decode cX7_write 153 = .ok (.aload_n 0, 1) := by decide +kernel
theorem dX7_write_154 : decode cX7_write 154 = .ok (.ldc2_w 185, 3) := by decide +kernel
theorem dX7_write_157 : decode cX7_write 157 = .ok (.bipush 8, 2) := by decide +kernel
theorem dX7_write_159 : decode cX7_write 159 = .ok (.invokevirtual 181, 3) := by decide +kernel
theorem dX7_write_162 : decode cX7_write 162 = .ok (.goto 20, 3) := by decide +kernel
theorem dX7_write_165 : decode cX7_write 165 = .ok (.iload 5, 2) := by decide +kernel
theorem dX7_write_167 : decode cX7_write 167 = .ok (.iconst 3, 1) := by decide +kernel
theorem dX7_write_168 : decode cX7_write 168 = .ok (.if_icmp .ge 14, 3) := by decide +kernel
theorem dX7_write_171 : decode cX7_write 171 = .ok (.aload_n 0, 1) := by decide +kernel
theorem dX7_write_172 : decode cX7_write 172 = .ok (.iload_n 1, 1) := by decide +kernel
theorem dX7_write_173 : decode cX7_write 173 = .ok (.iload 4, 2) := by decide +kernel
theorem dX7_write_175 : decode cX7_write 175 = .ok (.iload 6, 2) := by decide +kernel
theorem dX7_write_177 : decode cX7_write 177 = .ok (.invokevirtual 187, 3) := by decide +kernel
theorem dX7_write_180 : decode cX7_write 180 = .ok (.istore 4, 2) := by decide +kernel
theorem dX7_write_182 : decode cX7_write 182 = .ok (.iconst 0, 1) := by decide +kernel
theorem dX7_write_183 : decode cX7_write 183 = .ok (.istore 7, 2) := by decide +kernel
theorem dX7_write_185 : decode cX7_write 185 = .ok (.iload 5, 2) := by decide +kernel
theorem dX7_write_187 : decode cX7_write 187 = .ok (.iconst 3, 1) := by decide +kernel
theorem dX7_write_188 : decode cX7_write 188 = .ok (.if_icmp .ne 46, 3) := by decide +kernel
theorem dX7_write_191 : decode cX7_write 191 = .ok (.iload 7, 2) := by decide +kernel
theorem dX7_write_193 : decode cX7_write 193 = .ok (.iload 6, 2) := by decide +kernel
theorem dX7_write_195 : decode cX7_write 195 = .ok (.if_icmp .ge 39, 3) := by decide +kernel
theorem dX7_write_198 : decode cX7_write 198 = .ok (.aload_n 0, 1) := by decide +kernel
theorem dX7_write_199 : decode cX7_write 199 = .ok (.aload_n 0, 1) := by decide +kernel
theorem dX7_write_200 : decode cX7_write 200 = .ok (.getfield 14, 3) := by decide +kernel
theorem dX7_write_203 : decode cX7_write 203 = .ok (.iload_n 3, 1) := by decide +kernel
theorem dX7_write_204 : decode cX7_write 204 = .ok (.iaload, 1) := by decide +kernel
theorem dX7_write_205 : decode cX7_write 205 = .ok (.i2l, 1) := by decide +kernel
theorem dX7_write_206 : decode cX7_write 206 = .ok (.iconst 4, 1) := by decide +kernel
theorem dX7_write_207 : decode cX7_write 207 = .ok (.invokevirtual 181, 3) := by decide +kernel
theorem dX7_write_210 : decode cX7_write 210 = .ok (.aload_n 0, 1) := by decide +kernel
theorem dX7_write_211 : decode cX7_write 211 = .ok (.iload_n 1, 1) := by decide +kernel
theorem dX7_write_212 : decode cX7_write 212 = .ok (.iload 4, 2) := by decide +kernel
theorem dX7_write_214 : decode cX7_write 214 = .ok (.aload_n 0, 1) := by decide +kernel
theorem dX7_write_215 : decode cX7_write 215 = .ok (.getfield 14, 3) := by decide +kernel
theorem dX7_write_218 : decode cX7_write 218 = .ok (.iload_n 3, 1) := by decide +kernel
theorem dX7_write_219 : decode cX7_write 219 = .ok (.iaload, 1) := by decide +kernel
theorem dX7_write_220 : decode cX7_write 220 = .ok (.invokevirtual 187, 3) := by decide +kernel
theorem dX7_write_223 : decode cX7_write 223 = .ok (.istore 4, 2) := by decide +kernel
theorem dX7_write_225 : decode cX7_write 225 = .ok (.iinc 3 1, 3) := by decide +kernel
theorem dX7_write_228 : decode cX7_write 228 = .ok (.iinc 7 1, 3) := by decide +kernel
theorem dX7_write_231 : decode cX7_write 231 = .ok (.goto (-46), 3) := by decide +kernel
theorem dX7_write_234 : decode cX7_write 234 = .ok (.goto (-167), 3) := by decide +kernel
theorem dX7_write_237 : decode cX7_write 237 = .ok (.aload_n 0, 1) := by decide +kernel
theorem dX7_write_238 : decode cX7_write 238 = .ok (.getfield 163, 3) := by decide +kernel
theorem dX7_write_241 : decode cX7_write 241 = .ok (.ireturn, 1) := by decide +kernel
theorem dX7_again_0 : decode cX7_again 0 = .ok (.aload_n 0, 1) := by decide +kernel
theorem dX7_again_1 : decode cX7_again 1 = .ok (.iconst 0, 1) := by decide +kernel
theorem dX7_again_2 : decode cX7_again 2 = .ok (.putfield 48, 3) := by decide +kernel
theorem dX7_again_5 : decode cX7_again 5 = .ok (.aload_n 0, 1) := by decide +kernel
theorem dX7_again_6 : decode cX7_again 6 = .ok (.aload_n 0, 1) := by decide +kernel
theorem dX7_again_7 : decode cX7_again 7 = .ok (.getfield 163, 3) := by decide +kernel
theorem dX7_again_10 : decode cX7_again 10 = .ok (.ldc 7, 2) := by decide +kernel
theorem dX7_again_12 : decode cX7_again 12 = .ok (.if_icmp .ge 10, 3) := by decide +kernel
theorem dX7_again_15 : decode cX7_again 15 = .ok (.aload_n 0, 1) := by decide +kernel
theorem dX7_again_16 : decode cX7_again 16 = .ok (.getfield 163, 3) := by decide +kernel
theorem dX7_again_19 : decode cX7_again 19 = .ok (.goto 5, 3) := by decide +kernel
theorem dX7_again_22 : decode cX7_again 22 = .ok (.ldc 7, 2) := by decide +kernel
theorem dX7_again_24 : decode cX7_again 24 = .ok (.putfield 55, 3) := by decide +kernel
theorem dX7_again_27 : decode cX7_again 27 = .ok (.iconst 0, 1) := by decide +kernel
theorem dX7_again_28 : decode cX7_again 28 = .ok (.istore_n 1, 1) := by decide +kernel
theorem dX7_again_29 : decode cX7_again 29 = .ok (.iload_n 1, 1) := by decide +kernel
theorem dX7_again_30 : decode cX7_again 30 = .ok (.aload_n 0, 1) := by decide +kernel
theorem dX7_again_31 : decode cX7_again 31 = .ok (.getfield 55, 3) := by decide +kernel
theorem dX7_again_34 : decode cX7_again 34 = .ok (.if_icmp .ge 21, 3) := by decide +kernel
theorem dX7_again_37 : decode cX7_again 37 = .ok (.aload_n 0, 1) := by decide +kernel
theorem dX7_again_38 : decode cX7_again 38 = .ok (.getfield 8, 3) := by decide +kernel
theorem dX7_again_41 : decode cX7_again 41 = .ok (.iload_n 1, 1) := by decide +kernel
theorem dX7_again_42 : decode cX7_again 42 = .ok (.aload_n 0, 1) := by decide +kernel
theorem dX7_again_43 : decode cX7_again 43 = .ok (.getfield 28, 3) := by decide +kernel
theorem dX7_again_46 : decode cX7_again 46 = .ok (.iload_n 1, 1) := by decide +kernel
theorem dX7_again_47 : decode cX7_again 47 = .ok (.iaload, 1) := by decide +kernel
theorem dX7_again_48 : decode cX7_again 48 = .ok (.iastore, 1) := by decide +kernel
theorem dX7_again_49 : decode cX7_again 49 = .ok (.iinc 1 1, 3) := by decide +kernel
theorem dX7_again_52 : decode cX7_again 52 = .ok (.goto (-23), 3) := by decide +kernel
theorem dX7_again_55 : decode cX7_again 55 = .ok (.aload_n 0, 1) := by decide +kernel
theorem dX7_again_56 : decode cX7_again 56 = .ok (.getfield 55, 3) := by decide +kernel
theorem dX7_again_59 : decode cX7_again 59 = .ok (.ireturn, 1) := by decide +kernel
theorem dX7_same_0 : decode cX7_same 0 = .ok (.aload_n 0, 1) := by decide +kernel
theorem dX7_same_1 : decode cX7_same 1 = .ok (.iconst 0, 1) := by decide +kernel
theorem dX7_same_2 : decode cX7_same 2 = .ok (.putfield 48, 3) := by decide +kernel
theorem dX7_same_5 : decode cX7_same 5 = .ok (.iload_n 1, 1) := by decide +kernel
theorem dX7_same_6 : decode cX7_same 6 = .ok (.invokestatic 157, 3) := by decide +kernel
theorem dX7_same_9 : decode cX7_same 9 = .ok (.ifCond .eq 10, 3) := by decide +kernel
theorem dX7_same_12 : decode cX7_same 12 = .ok (.iload_n 2, 1) := by decide +kernel
theorem dX7_same_13 : decode cX7_same 13 = .ok (.invokestatic 157, 3) := by decide +kernel
theorem dX7_same_16 : decode cX7_same 16 = .ok (.ifCond .ne 17, 3) := by decide +kernel
theorem dX7_same_19 : decode cX7_same 19 = .ok (.aload_n 0, 1) := by decide +kernel
theorem dX7_same_20 : decode cX7_same 20 = .ok (.iconst 1, 1) := by decide +kernel
theorem dX7_same_21 : decode cX7_same 21 = .ok (.invokevirtual 58, 3) := by decide +kernel
theorem dX7_same_24 : decode cX7_same 24 = .ok (.ifCond .le 7, 3) := by decide +kernel
theorem dX7_same_27 : decode cX7_same 27 = .ok (.iconst 1, 1) := by decide +kernel
theorem dX7_same_28 : decode cX7_same 28 = .ok (.goto 4, 3) := by decide +kernel
theorem dX7_same_31 : decode cX7_same 31 = .ok (.iconst 0, 1) := by decide +kernel
theorem dX7_same_32 : decode cX7_same 32 = .ok (.ireturn, 1) := by decide +kernel
theorem dX7_same_33 : decode cX7_same 33 = .ok (.aload_n 0, 1) := by decide +kernel
theorem dX7_same_34 : decode cX7_same 34 = .ok (.getfield 17, 3) := by decide +kernel
theorem dX7_same_37 : decode cX7_same 37 = .ok (.iload_n 1, 1) := by decide +kernel
theorem dX7_same_38 : decode cX7_same 38 = .ok (.iaload, 1) := by decide +kernel
theorem dX7_same_39 : decode cX7_same 39 = .ok (.aload_n 0, 1) := by decide +kernel
theorem dX7_same_40 : decode cX7_same 40 = .ok (.getfield 17, 3) := by decide +kernel
theorem dX7_same_43 : decode cX7_same 43 = .ok (.iload_n 2, 1) := by decide +kernel
theorem dX7_same_44 : decode cX7_same 44 = .ok (.iaload, 1) := by decide +kernel
theorem dX7_same_45 : decode cX7_same 45 = .ok (.if_icmp .ne 22, 3) := by decide +kernel
theorem dX7_same_48 : decode cX7_same 48 = .ok (.aload_n 0, 1) := by decide +kernel
theorem dX7_same_49 : decode cX7_same 49 = .ok (.getfield 24, 3) := by decide +kernel
theorem dX7_same_52 : decode cX7_same 52 = .ok (.iload_n 1, 1) := by decide +kernel
theorem dX7_same_53 : decode cX7_same 53 = .ok (.iaload, 1) := by decide +kernel
theorem dX7_same_54 : decode cX7_same 54 = .ok (.aload_n 0, 1) := by decide +kernel
theorem dX7_same_55 : decode cX7_same 55 = .ok (.getfield 24, 3) := by decide +kernel
theorem dX7_same_58 : decode cX7_same 58 = .ok (.iload_n 2, 1) := by decide +kernel
theorem dX7_same_59 : decode cX7_same 59 = .ok (.iaload, 1) := by decide +kernel
theorem dX7_same_60 : decode cX7_same 60 = .ok (.if_icmp .ne 7, 3) := by decide +kernel
theorem dX7_same_63 : decode cX7_same 63 = .ok (.iconst 1, 1) := by decide +kernel
theorem dX7_same_64 : decode cX7_same 64 = .ok (.goto 4, 3) := by decide +kernel
theorem dX7_same_67 : decode cX7_same 67 = .ok (.iconst 0, 1) := by decide +kernel
theorem dX7_same_68 : decode cX7_same 68 = .ok (.istore_n 3, 1) := by decide +kernel
theorem dX7_same_69 : decode cX7_same 69 = .ok (.iconst 0, 1) := by decide +kernel
theorem dX7_same_70 : decode cX7_same 70 = .ok (.istore 4, 2) := by decide +kernel
theorem dX7_same_72 : decode cX7_same 72 = .ok (.iload 4, 2) := by decide +kernel
theorem dX7_same_74 : decode cX7_same 74 = .ok (.aload_n 0, 1) := by decide +kernel
theorem dX7_same_75 : decode cX7_same 75 = .ok (.getfield 17, 3) := by decide +kernel
theorem dX7_same_78 : decode cX7_same 78 = .ok (.iload_n 1, 1) := by decide +kernel
theorem dX7_same_79 : decode cX7_same 79 = .ok (.iaload, 1) := by decide +kernel
theorem dX7_same_80 : decode cX7_same 80 = .ok (.if_icmp .ge 48, 3) := by decide +kernel
theorem dX7_same_83 : decode cX7_same 83 = .ok (.iload_n 3, 1) := by decide +kernel
theorem dX7_same_84 : decode cX7_same 84 = .ok (.ifCond .eq 44, 3) := by decide +kernel
theorem dX7_same_87 : decode cX7_same 87 = .ok (.aload_n 0, 1) := by decide +kernel
theorem dX7_same_88 : decode cX7_same 88 = .ok (.getfield 14, 3) := by decide +kernel
theorem dX7_same_91 : decode cX7_same 91 = .ok (.sipush 4096, 3) := by decide +kernel
theorem dX7_same_94 : decode cX7_same 94 = .ok (.iload_n 1, 1) := by decide +kernel
theorem dX7_same_95 : decode cX7_same 95 = .ok (.imul, 1) := by decide +kernel
theorem dX7_same_96 : decode cX7_same 96 = .ok (.iload 4, 2) := by decide +kernel
theorem dX7_same_98 : decode cX7_same 98 = .ok (.iadd, 1) := by decide +kernel
theorem dX7_same_99 : decode cX7_same 99 = .ok (.iaload, 1) := by decide +kernel
theorem dX7_same_100 : decode cX7_same 100 = .ok (.aload_n 0, 1) := by decide +kernel
theorem dX7_same_101 : decode cX7_same 101 = .ok (.getfield 14, 3) := by decide +kernel
theorem dX7_same_104 : decode cX7_same 104 = .ok (.sipush 4096, 3) := by decide +kernel
theorem dX7_same_107 : decode cX7_same 107 = .ok (.iload_n 2, 1) := by decide +kernel
theorem dX7_same_108 : decode cX7_same 108 = .ok (.imul, 1) := by decide +kernel
theorem dX7_same_109 : decode cX7_same 109 = .ok (.iload 4, 2) := by decide +kernel
theorem dX7_same_111 : decode cX7_same 111 = .ok (.iadd, 1) := by decide +kernel
theorem dX7_same_112 : decode cX7_same 112 = .ok (.iaload, 1) := by decide +kernel
theorem dX7_same_113 : decode cX7_same 113 = .ok (.if_icmp .ne 7, 3) := by decide +kernel
theorem dX7_same_116 : decode cX7_same 116 = .ok (.iconst 1, 1) := by decide +kernel
theorem dX7_same_117 : decode cX7_same 117 = .ok (.goto 4, 3) := by decide +kernel
theorem dX7_same_120 : decode cX7_same 120 = .ok (.iconst 0, 1) := by decide +kernel
theorem dX7_same_121 : decode cX7_same 121 = .ok (.istore_n 3, 1) := by decide +kernel
theorem dX7_same_122 : decode cX7_same 122 = .ok (.iinc 4 1, 3) := by decide +kernel
theorem dX7_same_125 : decode cX7_same 125 = .ok (.goto (-53), 3) := by decide +kernel
theorem dX7_same_128 : decode cX7_same 128 = .ok (.iconst 0, 1) := by decide +kernel
theorem dX7_same_129 : decode cX7_same 129 = .ok (.istore 4, 2) := by decide +kernel
theorem dX7_same_131 : decode cX7_same 131 = .ok (.iload 4, 2) := by decide +kernel
theorem dX7_same_133 : decode cX7_same 133 = .ok (.iconst 2, 1) := by decide +kernel
theorem dX7_same_134 : decode cX7_same 134 = .ok (.aload_n 0, 1) := by decide +kernel
theorem dX7_same_135 : decode cX7_same 135 = .ok (.getfield 24, 3) := by decide +kernel
theorem dX7_same_138 : decode cX7_same 138 = .ok (.iload_n 1, 1) := by decide +kernel
theorem dX7_same_139 : decode cX7_same 139 = .ok (.iaload, 1) := by decide +kernel
theorem dX7_same_140 : decode cX7_same 140 = .ok (.imul, 1) := by decide +kernel
theorem dX7_same_141 : decode cX7_same 141 = .ok (.if_icmp .ge 48, 3) := by decide +kernel
theorem dX7_same_144 : decode cX7_same 144 = .ok (.iload_n 3, 1) := by decide +kernel
theorem dX7_same_145 : decode cX7_same 145 = .ok (.ifCond .eq 44, 3) := by decide +kernel
theorem dX7_same_148 : decode cX7_same 148 = .ok (.aload_n 0, 1) := by decide +kernel
theorem dX7_same_149 : decode cX7_same 149 = .ok (.getfield 21, 3) := by decide +kernel
theorem dX7_same_152 : decode cX7_same 152 = .ok (.sipush 8192, 3) := by decide +kernel
theorem dX7_same_155 : decode cX7_same 155 = .ok (.iload_n 1, 1) := by decide +kernel
theorem dX7_same_156 : decode cX7_same 156 = .ok (.imul, 1) := by decide +kernel
theorem dX7_same_157 : decode cX7_same 157 = .ok (.iload 4, 2) := by decide +kernel
theorem dX7_same_159 : decode cX7_same 159 = .ok (.iadd, 1) := by decide +kernel
theorem dX7_same_160 : decode cX7_same 160 = .ok (.iaload, 1) := by decide +kernel
theorem dX7_same_161 : decode cX7_same 161 = .ok (.aload_n 0, 1) := by decide +kernel
theorem dX7_same_162 : decode cX7_same 162 = .ok (.getfield 21, 3) := by decide +kernel
theorem dX7_same_165 : decode cX7_same 165 = .ok (.sipush 8192, 3) := by decide +kernel
theorem dX7_same_168 : decode cX7_same 168 = .ok (.iload_n 2, 1) := by decide +kernel
theorem dX7_same_169 : decode cX7_same 169 = .ok (.imul, 1) := by decide +kernel
theorem dX7_same_170 : decode cX7_same 170 = .ok (.iload 4, 2) := by decide +kernel
theorem dX7_same_172 : decode cX7_same 172 = .ok (.iadd, 1) := by decide +kernel
theorem dX7_same_173 : decode cX7_same 173 = .ok (.iaload, 1) := by decide +kernel
theorem dX7_same_174 : decode cX7_same 174 = .ok (.if_icmp .ne 7, 3) := by decide +kernel
theorem dX7_same_177 : decode cX7_same 177 = .ok (.iconst 1, 1) := by decide +kernel
theorem dX7_same_178 : decode cX7_same 178 = .ok (.goto 4, 3) := by decide +kernel
theorem dX7_same_181 : decode cX7_same 181 = .ok (.iconst 0, 1) := by decide +kernel
theorem dX7_same_182 : decode cX7_same 182 = .ok (.istore_n 3, 1) := by decide +kernel
theorem dX7_same_183 : decode cX7_same 183 = .ok (.iinc 4 1, 3) := by decide +kernel
theorem dX7_same_186 : decode cX7_same 186 = .ok (.goto (-55), 3) := by decide +kernel
theorem dX7_same_189 : decode cX7_same 189 = .ok (.iload_n 3, 1) := by decide +kernel
theorem dX7_same_190 : decode cX7_same 190 = .ok (.ireturn, 1) := by decide +kernel
theorem dX7_plan_0 : decode cX7_plan 0 = .ok (.aload_n 0, 1) := by decide +kernel
theorem dX7_plan_1 : decode cX7_plan 1 = .ok (.iconst 0, 1) := by decide +kernel
theorem dX7_plan_2 : decode cX7_plan 2 = .ok (.putfield 48, 3) := by decide +kernel
theorem dX7_plan_5 : decode cX7_plan 5 = .ok (.iload_n 1, 1) := by decide +kernel
theorem dX7_plan_6 : decode cX7_plan 6 = .ok (.invokestatic 157, 3) := by decide +kernel
theorem dX7_plan_9 : decode cX7_plan 9 = .ok (.ifCond .eq 34, 3) := by decide +kernel
theorem dX7_plan_12 : decode cX7_plan 12 = .ok (.iload_n 2, 1) := by decide +kernel
theorem dX7_plan_13 : decode cX7_plan 13 = .ok (.iconst 0, 1) := by decide +kernel
theorem dX7_plan_14 : decode cX7_plan 14 = .ok (.aload_n 0, 1) := by decide +kernel
theorem dX7_plan_15 : decode cX7_plan 15 = .ok (.getfield 17, 3) := by decide +kernel
theorem dX7_plan_18 : decode cX7_plan 18 = .ok (.iload_n 1, 1) := by decide +kernel
theorem dX7_plan_19 : decode cX7_plan 19 = .ok (.iaload, 1) := by decide +kernel
theorem dX7_plan_20 : decode cX7_plan 20 = .ok (.iconst 1, 1) := by decide +kernel
theorem dX7_plan_21 : decode cX7_plan 21 = .ok (.isub, 1) := by decide +kernel
theorem dX7_plan_22 : decode cX7_plan 22 = .ok (.invokestatic 51, 3) := by decide +kernel
theorem dX7_plan_25 : decode cX7_plan 25 = .ok (.ifCond .eq 18, 3) := by decide +kernel
theorem dX7_plan_28 : decode cX7_plan 28 = .ok (.aload_n 0, 1) := by decide +kernel
theorem dX7_plan_29 : decode cX7_plan 29 = .ok (.getfield 14, 3) := by decide +kernel
theorem dX7_plan_32 : decode cX7_plan 32 = .ok (.sipush 4096, 3) := by decide +kernel
theorem dX7_plan_35 : decode cX7_plan 35 = .ok (.iload_n 1, 1) := by decide +kernel
theorem dX7_plan_36 : decode cX7_plan 36 = .ok (.imul, 1) := by decide +kernel
theorem dX7_plan_37 : decode cX7_plan 37 = .ok (.iload_n 2, 1) := by decide +kernel
theorem dX7_plan_38 : decode cX7_plan 38 = .ok (.iadd, 1) := by decide +kernel
theorem dX7_plan_39 : decode cX7_plan 39 = .ok (.iaload, 1) := by decide +kernel
theorem dX7_plan_40 : decode cX7_plan 40 = .ok (.goto 8, 3) := by decide +kernel
theorem dX7_plan_43 : decode cX7_plan 43 = .ok (.aload_n 0, 1) := by decide +kernel
theorem dX7_plan_44 : decode cX7_plan 44 = .ok (.iconst 1, 1) := by decide +kernel
theorem dX7_plan_45 : decode cX7_plan 45 = .ok (.invokevirtual 58, 3) := by decide +kernel
theorem dX7_plan_48 : decode cX7_plan 48 = .ok (.ireturn, 1) := by decide +kernel
theorem dX7_ordinate_0 : decode cX7_ordinate 0 = .ok (.aload_n 0, 1) := by decide +kernel
theorem dX7_ordinate_1 : decode cX7_ordinate 1 = .ok (.iconst 0, 1) := by decide +kernel
theorem dX7_ordinate_2 : decode cX7_ordinate 2 = .ok (.putfield 48, 3) := by decide +kernel
theorem dX7_ordinate_5 : decode cX7_ordinate 5 = .ok (.iload_n 1, 1) := by decide +kernel
theorem dX7_ordinate_6 : decode cX7_ordinate 6 = .ok (.invokestatic 157, 3) := by decide +kernel
theorem dX7_ordinate_9 : decode cX7_ordinate 9 = .ok (.ifCond .eq 47, 3) := by decide +kernel
theorem dX7_ordinate_12 : decode cX7_ordinate 12 = .ok (.iload_n 2, 1) := by decide +kernel
theorem dX7_ordinate_13 : decode cX7_ordinate 13 = .ok (.iconst 0, 1) := by decide +kernel
theorem dX7_ordinate_14 : decode cX7_ordinate 14 = .ok (.aload_n 0, 1) := by decide +kernel
theorem dX7_ordinate_15 : decode cX7_ordinate 15 = .ok (.getfield 24, 3) := by decide +kernel
theorem dX7_ordinate_18 : decode cX7_ordinate 18 = .ok (.iload_n 1, 1) := by decide +kernel
theorem dX7_ordinate_19 : decode cX7_ordinate 19 = .ok (.iaload, 1) := by decide +kernel
theorem dX7_ordinate_20 : decode cX7_ordinate 20 = .ok (.iconst 1, 1) := by decide +kernel
theorem dX7_ordinate_21 : decode cX7_ordinate 21 = .ok (.isub, 1) := by decide +kernel
theorem dX7_ordinate_22 : decode cX7_ordinate 22 = .ok (.invokestatic 51, 3) := by decide +kernel
theorem dX7_ordinate_25 : decode cX7_ordinate 25 = .ok (.ifCond .eq 31, 3) := by decide +kernel
theorem dX7_ordinate_28 : decode cX7_ordinate 28 = .ok (.iload_n 3, 1) := by decide +kernel
theorem dX7_ordinate_29 : decode cX7_ordinate 29 = .ok (.iconst 0, 1) := by decide +kernel
theorem dX7_ordinate_30 : decode cX7_ordinate 30 = .ok (.iconst 1, 1) := by decide +kernel
theorem dX7_ordinate_31 : decode cX7_ordinate 31 = .ok (.invokestatic 51, 3) := by decide +kernel
theorem dX7_ordinate_34 : decode cX7_ordinate 34 = .ok (.ifCond .eq 22, 3) := by decide +kernel
theorem dX7_ordinate_37 : decode cX7_ordinate 37 = .ok (.aload_n 0, 1) := by decide +kernel
theorem dX7_ordinate_38 : decode cX7_ordinate 38 = .ok (.getfield 21, 3) := by decide +kernel
theorem dX7_ordinate_41 : decode cX7_ordinate 41 = .ok (.iconst 2, 1) := by decide +kernel
theorem dX7_ordinate_42 : decode cX7_ordinate 42 = .ok (.sipush 4096, 3) := by decide +kernel
theorem dX7_ordinate_45 : decode cX7_ordinate 45 = .ok (.iload_n 1, 1) := by decide +kernel
theorem dX7_ordinate_46 : decode cX7_ordinate 46 = .ok (.imul, 1) := by decide +kernel
theorem dX7_ordinate_47 : decode cX7_ordinate 47 = .ok (.iload_n 2, 1) := by decide +kernel
theorem dX7_ordinate_48 : decode cX7_ordinate 48 = .ok (.iadd, 1) := by decide +kernel
theorem dX7_ordinate_49 : decode cX7_ordinate 49 = .ok (.imul, 1) := by decide +kernel
theorem dX7_ordinate_50 : decode cX7_ordinate 50 = .ok (.iload_n 3, 1) := by decide +kernel
