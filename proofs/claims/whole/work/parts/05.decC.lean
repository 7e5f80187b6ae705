theorem dX10_init_0 : decode cX10_init 0 = .ok (.aload_n 0, 1) := by decide +kernel
theorem dX10_init_1 : decode cX10_init 1 = .ok (.invokespecial 3, 3) := by decide +kernel
theorem dX10_init_4 : decode cX10_init 4 = .ok (.aload_n 0, 1) := by decide +kernel
theorem dX10_init_5 : decode cX10_init 5 = .ok (.sipush 295, 3) := by decide +kernel
theorem dX10_init_8 : decode cX10_init 8 = .ok (.newarray .int, 2) := by decide +kernel
theorem dX10_init_10 : decode cX10_init 10 = .ok (.putfield 9, 3) := by decide +kernel
theorem dX10_init_13 : decode cX10_init 13 = .ok (.aload_n 0, 1) := by decide +kernel
theorem dX10_init_14 : decode cX10_init 14 = .ok (.sipush 295, 3) := by decide +kernel
theorem dX10_init_17 : decode cX10_init 17 = .ok (.newarray .int, 2) := by decide +kernel
theorem dX10_init_19 : decode cX10_init 19 = .ok (.putfield 13, 3) := by decide +kernel
theorem dX10_init_22 : decode cX10_init 22 = .ok (.aload_n 0, 1) := by decide +kernel
theorem dX10_init_23 : decode cX10_init 23 = .ok (.sipush 295, 3) := by decide +kernel
theorem dX10_init_26 : decode cX10_init 26 = .ok (.newarray .int, 2) := by decide +kernel
theorem dX10_init_28 : decode cX10_init 28 = .ok (.putfield 16, 3) := by decide +kernel
theorem dX10_init_31 : decode cX10_init 31 = .ok (.aload_n 0, 1) := by decide +kernel
theorem dX10_init_32 : decode cX10_init 32 = .ok (.bipush 7, 2) := by decide +kernel
theorem dX10_init_34 : decode cX10_init 34 = .ok (.newarray .int, 2) := by decide +kernel
theorem dX10_init_36 : decode cX10_init 36 = .ok (.putfield 19, 3) := by decide +kernel
theorem dX10_init_39 : decode cX10_init 39 = .ok (.aload_n 0, 1) := by decide +kernel
theorem dX10_init_40 : decode cX10_init 40 = .ok (.bipush 7, 2) := by decide +kernel
theorem dX10_init_42 : decode cX10_init 42 = .ok (.newarray .int, 2) := by decide +kernel
theorem dX10_init_44 : decode cX10_init 44 = .ok (.dup, 1) := by decide +kernel
theorem dX10_init_45 : decode cX10_init 45 = .ok (.iconst 0, 1) := by decide +kernel
theorem dX10_init_46 : decode cX10_init 46 = .ok (.iconst 0, 1) := by decide +kernel
theorem dX10_init_47 : decode cX10_init 47 = .ok (.iastore, 1) := by decide +kernel
theorem dX10_init_48 : decode cX10_init 48 = .ok (.dup, 1) := by decide +kernel
theorem dX10_init_49 : decode cX10_init 49 = .ok (.iconst 1, 1) := by decide +kernel
theorem dX10_init_50 : decode cX10_init 50 = .ok (.bipush (-99), 2) := by decide +kernel
theorem dX10_init_52 : decode cX10_init 52 = .ok (.iastore, 1) := by decide +kernel
theorem dX10_init_53 : decode cX10_init 53 = .ok (.dup, 1) := by decide +kernel
theorem dX10_init_54 : decode cX10_init 54 = .ok (.iconst 2, 1) := by decide +kernel
theorem dX10_init_55 : decode cX10_init 55 = .ok (.iconst 1, 1) := by decide +kernel
theorem dX10_init_56 : decode cX10_init 56 = .ok (.iastore, 1) := by decide +kernel
theorem dX10_init_57 : decode cX10_init 57 = .ok (.dup, 1) := by decide +kernel
theorem dX10_init_58 : decode cX10_init 58 = .ok (.iconst 3, 1) := by decide +kernel
theorem dX10_init_59 : decode cX10_init 59 = .ok (.iconst 0, 1) := by decide +kernel
theorem dX10_init_60 : decode cX10_init 60 = .ok (.iastore, 1) := by decide +kernel
theorem dX10_init_61 : decode cX10_init 61 = .ok (.dup, 1) := by decide +kernel
theorem dX10_init_62 : decode cX10_init 62 = .ok (.iconst 4, 1) := by decide +kernel
theorem dX10_init_63 : decode cX10_init 63 = .ok (.iconst 0, 1) := by decide +kernel
theorem dX10_init_64 : decode cX10_init 64 = .ok (.iastore, 1) := by decide +kernel
theorem dX10_init_65 : decode cX10_init 65 = .ok (.dup, 1) := by decide +kernel
theorem dX10_init_66 : decode cX10_init 66 = .ok (.iconst 5, 1) := by decide +kernel
theorem dX10_init_67 : decode cX10_init 67 = .ok (.iconst 0, 1) := by decide +kernel
theorem dX10_init_68 : decode cX10_init 68 = .ok (.iastore, 1) := by decide +kernel
theorem dX10_init_69 : decode cX10_init 69 = .ok (.dup, 1) := by decide +kernel
theorem dX10_init_70 : decode cX10_init 70 = .ok (.bipush 6, 2) := by decide +kernel
theorem dX10_init_72 : decode cX10_init 72 = .ok (.iconst 0, 1) := by decide +kernel
theorem dX10_init_73 : decode cX10_init 73 = .ok (.iastore, 1) := by decide +kernel
theorem dX10_init_74 : decode cX10_init 74 = .ok (.putfield 22, 3) := by decide +kernel
theorem dX10_init_77 : decode cX10_init 77 = .ok (.aload_n 0, 1) := by decide +kernel
theorem dX10_init_78 : decode cX10_init 78 = .ok (.bipush 7, 2) := by decide +kernel
theorem dX10_init_80 : decode cX10_init 80 = .ok (.newarray .int, 2) := by decide +kernel
theorem dX10_init_82 : decode cX10_init 82 = .ok (.dup, 1) := by decide +kernel
theorem dX10_init_83 : decode cX10_init 83 = .ok (.iconst 0, 1) := by decide +kernel
theorem dX10_init_84 : decode cX10_init 84 = .ok (.bipush 99, 2) := by decide +kernel
theorem dX10_init_86 : decode cX10_init 86 = .ok (.iastore, 1) := by decide +kernel
theorem dX10_init_87 : decode cX10_init 87 = .ok (.dup, 1) := by decide +kernel
theorem dX10_init_88 : decode cX10_init 88 = .ok (.iconst 1, 1) := by decide +kernel
theorem dX10_init_89 : decode cX10_init 89 = .ok (.bipush 99, 2) := by decide +kernel
theorem dX10_init_91 : decode cX10_init 91 = .ok (.iastore, 1) := by decide +kernel
theorem dX10_init_92 : decode cX10_init 92 = .ok (.dup, 1) := by decide +kernel
theorem dX10_init_93 : decode cX10_init 93 = .ok (.iconst 2, 1) := by decide +kernel
theorem dX10_init_94 : decode cX10_init 94 = .ok (.bipush 30, 2) := by decide +kernel
theorem dX10_init_96 : decode cX10_init 96 = .ok (.iastore, 1) := by decide +kernel
theorem dX10_init_97 : decode cX10_init 97 = .ok (.dup, 1) := by decide +kernel
theorem dX10_init_98 : decode cX10_init 98 = .ok (.iconst 3, 1) := by decide +kernel
theorem dX10_init_99 : decode cX10_init 99 = .ok (.bipush 9, 2) := by decide +kernel
theorem dX10_init_101 : decode cX10_init 101 = .ok (.iastore, 1) := by decide +kernel
theorem dX10_init_102 : decode cX10_init 102 = .ok (.dup, 1) := by decide +kernel
theorem dX10_init_103 : decode cX10_init 103 = .ok (.iconst 4, 1) := by decide +kernel
theorem dX10_init_104 : decode cX10_init 104 = .ok (.bipush 50, 2) := by decide +kernel
theorem dX10_init_106 : decode cX10_init 106 = .ok (.iastore, 1) := by decide +kernel
theorem dX10_init_107 : decode cX10_init 107 = .ok (.dup, 1) := by decide +kernel
theorem dX10_init_108 : decode cX10_init 108 = .ok (.iconst 5, 1) := by decide +kernel
theorem dX10_init_109 : decode cX10_init 109 = .ok (.bipush 60, 2) := by decide +kernel
theorem dX10_init_111 : decode cX10_init 111 = .ok (.iastore, 1) := by decide +kernel
theorem dX10_init_112 : decode cX10_init 112 = .ok (.dup, 1) := by decide +kernel
theorem dX10_init_113 : decode cX10_init 113 = .ok (.bipush 6, 2) := by decide +kernel
theorem dX10_init_115 : decode cX10_init 115 = .ok (.sipush 9999, 3) := by decide +kernel
theorem dX10_init_118 : decode cX10_init 118 = .ok (.iastore, 1) := by decide +kernel
theorem dX10_init_119 : decode cX10_init 119 = .ok (.putfield 25, 3) := by decide +kernel
theorem dX10_init_122 : decode cX10_init 122 = .ok (.aload_n 0, 1) := by decide +kernel
theorem dX10_init_123 : decode cX10_init 123 = .ok (.iconst 2, 1) := by decide +kernel
theorem dX10_init_124 : decode cX10_init 124 = .ok (.anewarray 28, 3) := by decide +kernel
theorem dX10_init_127 : decode cX10_init 127 = .ok (.dup, 1) := by decide +kernel
theorem dX10_init_128 : decode cX10_init 128 = .ok (.iconst 0, 1) := by decide +kernel
theorem dX10_init_129 : decode cX10_init 129 = .ok (.ldc 30, 2) := by decide +kernel
theorem dX10_init_131 : decode cX10_init 131 = .ok (.aastore, 1) := by decide +kernel
theorem dX10_init_132 : decode cX10_init 132 = .ok (.dup, 1) := by decide +kernel
theorem dX10_init_133 : decode cX10_init 133 = .ok (.iconst 1, 1) := by decide +kernel
theorem dX10_init_134 : decode cX10_init 134 = .ok (.ldc 32, 2) := by decide +kernel
theorem dX10_init_136 : decode cX10_init 136 = .ok (.aastore, 1) := by decide +kernel
theorem dX10_init_137 : decode cX10_init 137 = .ok (.putfield 34, 3) := by decide +kernel
theorem dX10_init_140 : decode cX10_init 140 = .ok (.aload_n 0, 1) := by decide +kernel
theorem dX10_init_141 : decode cX10_init 141 = .ok (.bipush 60, 2) := by decide +kernel
theorem dX10_init_143 : decode cX10_init 143 = .ok (.newarray .int, 2) := by decide +kernel
theorem dX10_init_145 : decode cX10_init 145 = .ok (.putfield 38, 3) := by decide +kernel
theorem dX10_init_148 : decode cX10_init 148 = .ok (.aload_n 0, 1) := by decide +kernel
theorem dX10_init_149 : decode cX10_init 149 = .ok (.iconst 5, 1) := by decide +kernel
theorem dX10_init_150 : decode cX10_init 150 = .ok (.newarray .int, 2) := by decide +kernel
theorem dX10_init_152 : decode cX10_init 152 = .ok (.putfield 41, 3) := by decide +kernel
theorem dX10_init_155 : decode cX10_init 155 = .ok (.aload_n 0, 1) := by decide +kernel
theorem dX10_init_156 : decode cX10_init 156 = .ok (.bipush 60, 2) := by decide +kernel
theorem dX10_init_158 : decode cX10_init 158 = .ok (.newarray .int, 2) := by decide +kernel
theorem dX10_init_160 : decode cX10_init 160 = .ok (.putfield 44, 3) := by decide +kernel
theorem dX10_init_163 : decode cX10_init 163 = .ok (.aload_n 0, 1) := by decide +kernel
theorem dX10_init_164 : decode cX10_init 164 = .ok (.sipush 199, 3) := by decide +kernel
theorem dX10_init_167 : decode cX10_init 167 = .ok (.newarray .long, 2) := by decide +kernel
theorem dX10_init_169 : decode cX10_init 169 = .ok (.putfield 47, 3) := by decide +kernel
theorem dX10_init_172 : decode cX10_init 172 = .ok (.aload_n 0, 1) := by decide +kernel
theorem dX10_init_173 : decode cX10_init 173 = .ok (.sipush 199, 3) := by decide +kernel
theorem dX10_init_176 : decode cX10_init 176 = .ok (.newarray .long, 2) := by decide +kernel
theorem dX10_init_178 : decode cX10_init 178 = .ok (.putfield 51, 3) := by decide +kernel
theorem dX10_init_181 : decode cX10_init 181 = .ok (.aload_n 0, 1) := by decide +kernel
theorem dX10_init_182 : decode cX10_init 182 = .ok (.bipush 30, 2) := by decide +kernel
theorem dX10_init_184 : decode cX10_init 184 = .ok (.newarray .int, 2) := by decide +kernel
theorem dX10_init_186 : decode cX10_init 186 = .ok (.putfield 54, 3) := by decide +kernel
theorem dX10_init_189 : decode cX10_init 189 = .ok (.aload_n 0, 1) := by decide +kernel
theorem dX10_init_190 : decode cX10_init 190 = .ok (.iconst 4, 1) := by decide +kernel
theorem dX10_init_191 : decode cX10_init 191 = .ok (.newarray .int, 2) := by decide +kernel
theorem dX10_init_193 : decode cX10_init 193 = .ok (.putfield 57, 3) := by decide +kernel
theorem dX10_init_196 : decode cX10_init 196 = .ok (.aload_n 0, 1) := by decide +kernel
theorem dX10_init_197 : decode cX10_init 197 = .ok (.iconst 4, 1) := by decide +kernel
theorem dX10_init_198 : decode cX10_init 198 = .ok (.newarray .int, 2) := by decide +kernel
theorem dX10_init_200 : decode cX10_init 200 = .ok (.putfield 60, 3) := by decide +kernel
theorem dX10_init_203 : decode cX10_init 203 = .ok (.aload_n 0, 1) := by decide +kernel
theorem dX10_init_204 : decode cX10_init 204 = .ok (.bipush 96, 2) := by decide +kernel
theorem dX10_init_206 : decode cX10_init 206 = .ok (.newarray .int, 2) := by decide +kernel
theorem dX10_init_208 : decode cX10_init 208 = .ok (.putfield 63, 3) := by decide +kernel
theorem dX10_init_211 : decode cX10_init 211 = .ok (.aload_n 0, 1) := by decide +kernel
theorem dX10_init_212 : decode cX10_init 212 = .ok (.bipush 24, 2) := by decide +kernel
theorem dX10_init_214 : decode cX10_init 214 = .ok (.newarray .int, 2) := by decide +kernel
theorem dX10_init_216 : decode cX10_init 216 = .ok (.putfield 66, 3) := by decide +kernel
theorem dX10_init_219 : decode cX10_init 219 = .ok (.aload_n 0, 1) := by decide +kernel
theorem dX10_init_220 : decode cX10_init 220 = .ok (.getfield 9, 3) := by decide +kernel
theorem dX10_init_223 : decode cX10_init 223 = .ok (.iconst 2, 1) := by decide +kernel
theorem dX10_init_224 : decode cX10_init 224 = .ok (.bipush 8, 2) := by decide +kernel
theorem dX10_init_226 : decode cX10_init 226 = .ok (.iastore, 1) := by decide +kernel
theorem dX10_init_227 : decode cX10_init 227 = .ok (.aload_n 0, 1) := by decide +kernel
theorem dX10_init_228 : decode cX10_init 228 = .ok (.getfield 9, 3) := by decide +kernel
theorem dX10_init_231 : decode cX10_init 231 = .ok (.iconst 3, 1) := by decide +kernel
theorem dX10_init_232 : decode cX10_init 232 = .ok (.iconst 4, 1) := by decide +kernel
theorem dX10_init_233 : decode cX10_init 233 = .ok (.iastore, 1) := by decide +kernel
theorem dX10_init_234 : decode cX10_init 234 = .ok (.aload_n 0, 1) := by decide +kernel
theorem dX10_init_235 : decode cX10_init 235 = .ok (.getfield 9, 3) := by decide +kernel
theorem dX10_init_238 : decode cX10_init 238 = .ok (.iconst 4, 1) := by decide +kernel
theorem dX10_init_239 : decode cX10_init 239 = .ok (.bipush 10, 2) := by decide +kernel
theorem dX10_init_241 : decode cX10_init 241 = .ok (.iastore, 1) := by decide +kernel
theorem dX10_init_242 : decode cX10_init 242 = .ok (.aload_n 0, 1) := by decide +kernel
theorem dX10_init_243 : decode cX10_init 243 = .ok (.getfield 9, 3) := by decide +kernel
theorem dX10_init_246 : decode cX10_init 246 = .ok (.bipush 18, 2) := by decide +kernel
theorem dX10_init_248 : decode cX10_init 248 = .ok (.iconst 1, 1) := by decide +kernel
theorem dX10_init_249 : decode cX10_init 249 = .ok (.iastore, 1) := by decide +kernel
theorem dX10_init_250 : decode cX10_init 250 = .ok (.return_, 1) := by decide +kernel
theorem dX10_finding_0 : decode cX10_finding 0 = .ok (.aload_n 0, 1) := by decide +kernel
theorem dX10_finding_1 : decode cX10_finding 1 = .ok (.getfield 19, 3) := by decide +kernel
theorem dX10_finding_4 : decode cX10_finding 4 = .ok (.ldc 69, 2) := by decide +kernel
theorem dX10_finding_6 : decode cX10_finding 6 = .ok (.iload_n 1, 1) := by decide +kernel
theorem dX10_finding_7 : decode cX10_finding 7 = .ok (.isub, 1) := by decide +kernel
theorem dX10_finding_8 : decode cX10_finding 8 = .ok (.dup2, 1) := by decide +kernel
theorem dX10_finding_9 : decode cX10_finding 9 = .ok (.iaload, 1) := by decide +kernel
theorem dX10_finding_10 : decode cX10_finding 10 = .ok (.iconst 1, 1) := by decide +kernel
theorem dX10_finding_11 : decode cX10_finding 11 = .ok (.iadd, 1) := by decide +kernel
theorem dX10_finding_12 : decode cX10_finding 12 = .ok (.iastore, 1) := by decide +kernel
theorem dX10_finding_13 : decode cX10_finding 13 = .ok (.iload_n 1, 1) := by decide +kernel
theorem dX10_finding_14 : decode cX10_finding 14 = .ok (.ireturn, 1) := by decide +kernel
theorem dX10_within_0 : decode cX10_within 0 = .ok (.iload_n 0, 1) := by decide +kernel
theorem dX10_within_1 : decode cX10_within 1 = .ok (.iload_n 1, 1) := by decide +kernel
theorem dX10_within_2 : decode cX10_within 2 = .ok (.if_icmp .lt 12, 3) := by decide +kernel
theorem dX10_within_5 : decode cX10_within 5 = .ok (.iload_n 0, 1) := by decide +kernel
theorem dX10_within_6 : decode cX10_within 6 = .ok (.iload_n 2, 1) := by decide +kernel
theorem dX10_within_7 : decode cX10_within 7 = .ok (.if_icmp .gt 7, 3) := by decide +kernel
theorem dX10_within_10 : decode cX10_within 10 = .ok (.iconst 1, 1) := by decide +kernel
theorem dX10_within_11 : decode cX10_within 11 = .ok (.goto 4, 3) := by decide +kernel
theorem dX10_within_14 : decode cX10_within 14 = .ok (.iconst 0, 1) := by decide +kernel
theorem dX10_within_15 : decode cX10_within 15 = .ok (.ireturn, 1) := by decide +kernel
theorem dX10_held_0 : decode cX10_held 0 = .ok (.iload_n 1, 1) := by decide +kernel
theorem dX10_held_1 : decode cX10_held 1 = .ok (.iload_n 2, 1) := by decide +kernel
theorem dX10_held_2 : decode cX10_held 2 = .ok (.iload_n 0, 1) := by decide +kernel
theorem dX10_held_3 : decode cX10_held 3 = .ok (.invokestatic 70, 3) := by decide +kernel
theorem dX10_held_6 : decode cX10_held 6 = .ok (.invokestatic 76, 3) := by decide +kernel
theorem dX10_held_9 : decode cX10_held 9 = .ok (.ireturn, 1) := by decide +kernel
theorem dX10_isOf_0 : decode cX10_isOf 0 = .ok (.iload_n 1, 1) := by decide +kernel
theorem dX10_isOf_1 : decode cX10_isOf 1 = .ok (.iconst 0, 1) := by decide +kernel
theorem dX10_isOf_2 : decode cX10_isOf 2 = .ok (.aload_n 0, 1) := by decide +kernel
theorem dX10_isOf_3 : decode cX10_isOf 3 = .ok (.getfield 9, 3) := by decide +kernel
theorem dX10_isOf_6 : decode cX10_isOf 6 = .ok (.iload_n 2, 1) := by decide +kernel
theorem dX10_isOf_7 : decode cX10_isOf 7 = .ok (.iaload, 1) := by decide +kernel
theorem dX10_isOf_8 : decode cX10_isOf 8 = .ok (.iconst 1, 1) := by decide +kernel
theorem dX10_isOf_9 : decode cX10_isOf 9 = .ok (.isub, 1) := by decide +kernel
theorem dX10_isOf_10 : decode cX10_isOf 10 = .ok (.invokestatic 79, 3) := by decide +kernel
theorem dX10_isOf_13 : decode cX10_isOf 13 = .ok (.ireturn, 1) := by decide +kernel
theorem dX10_copy_0 : decode cX10_copy 0 = .ok (.iconst 0, 1) := by decide +kernel
theorem dX10_copy_1 : decode cX10_copy 1 = .ok (.istore_n 2, 1) := by decide +kernel
theorem dX10_copy_2 : decode cX10_copy 2 = .ok (.iload_n 2, 1) := by decide +kernel
theorem dX10_copy_3 : decode cX10_copy 3 = .ok (.sipush 295, 3) := by decide +kernel
theorem dX10_copy_6 : decode cX10_copy 6 = .ok (.if_icmp .ge 15, 3) := by decide +kernel
theorem dX10_copy_9 : decode cX10_copy 9 = .ok (.aload_n 1, 1) := by decide +kernel
theorem dX10_copy_10 : decode cX10_copy 10 = .ok (.iload_n 2, 1) := by decide +kernel
theorem dX10_copy_11 : decode cX10_copy 11 = .ok (.aload_n 0, 1) := by decide +kernel
theorem dX10_copy_12 : decode cX10_copy 12 = .ok (.iload_n 2, 1) := by decide +kernel
theorem dX10_copy_13 : decode cX10_copy 13 = .ok (.iaload, 1) := by decide +kernel
theorem dX10_copy_14 : decode cX10_copy 14 = .ok (.iastore, 1) := by decide +kernel
theorem dX10_copy_15 : decode cX10_copy 15 = .ok (.iinc 2 1, 3) := by decide +kernel
theorem dX10_copy_18 : decode cX10_copy 18 = .ok (.goto (-16), 3) := by decide +kernel
theorem dX10_copy_21 : decode cX10_copy 21 = .ok (.return_, 1) := by decide +kernel
theorem dX10_become_0 : decode cX10_become 0 = .ok (.aload_n 0, 1) := by decide +kernel
theorem dX10_become_1 : decode cX10_become 1 = .ok (.getfield 9, 3) := by decide +kernel
theorem dX10_become_4 : decode cX10_become 4 = .ok (.iload_n 1, 1) := by decide +kernel
theorem dX10_become_5 : decode cX10_become 5 = .ok (.iaload, 1) := by decide +kernel
theorem dX10_become_6 : decode cX10_become 6 = .ok (.istore_n 3, 1) := by decide +kernel
theorem dX10_become_7 : decode cX10_become 7 = .ok (.aload_n 0, 1) := by decide +kernel
theorem dX10_become_8 : decode cX10_become 8 = .ok (.getfield 9, 3) := by decide +kernel
theorem dX10_become_11 : decode cX10_become 11 = .ok (.iload_n 1, 1) := by decide +kernel
theorem dX10_become_12 : decode cX10_become 12 = .ok (.iload_n 2, 1) := by decide +kernel
theorem dX10_become_13 : decode cX10_become 13 = .ok (.iastore, 1) := by decide +kernel
theorem dX10_become_14 : decode cX10_become 14 = .ok (.iload_n 3, 1) := by decide +kernel
theorem dX10_become_15 : decode cX10_become 15 = .ok (.ireturn, 1) := by decide +kernel
theorem dX10_putBack_0 : decode cX10_putBack 0 = .ok (.aload_n 0, 1) := by decide +kernel
theorem dX10_putBack_1 : decode cX10_putBack 1 = .ok (.getfield 16, 3) := by decide +kernel
theorem dX10_putBack_4 : decode cX10_putBack 4 = .ok (.aload_n 0, 1) := by decide +kernel
theorem dX10_putBack_5 : decode cX10_putBack 5 = .ok (.getfield 9, 3) := by decide +kernel
theorem dX10_putBack_8 : decode cX10_putBack 8 = .ok (.invokestatic 83, 3) := by decide +kernel
theorem dX10_putBack_11 : decode cX10_putBack 11 = .ok (.iload_n 1, 1) := by decide +kernel
theorem dX10_putBack_12 : decode cX10_putBack 12 = .ok (.ireturn, 1) := by decide +kernel
theorem dX10_more_0 : decode cX10_more 0 = .ok (.aload_n 0, 1) := by decide +kernel
theorem dX10_more_1 : decode cX10_more 1 = .ok (.getfield 9, 3) := by decide +kernel
theorem dX10_more_4 : decode cX10_more 4 = .ok (.iload_n 1, 1) := by decide +kernel
theorem dX10_more_5 : decode cX10_more 5 = .ok (.ldc 87, 2) := by decide +kernel
theorem dX10_more_7 : decode cX10_more 7 = .ok (.aload_n 0, 1) := by decide +kernel
theorem dX10_more_8 : decode cX10_more 8 = .ok (.getfield 9, 3) := by decide +kernel
theorem dX10_more_11 : decode cX10_more 11 = .ok (.iload_n 1, 1) := by decide +kernel
theorem dX10_more_12 : decode cX10_more 12 = .ok (.iaload, 1) := by decide +kernel
theorem dX10_more_13 : decode cX10_more 13 = .ok (.iload_n 2, 1) := by decide +kernel
theorem dX10_more_14 : decode cX10_more 14 = .ok (.iadd, 1) := by decide +kernel
theorem dX10_more_15 : decode cX10_more 15 = .ok (.invokestatic 70, 3) := by decide +kernel
theorem dX10_more_18 : decode cX10_more 18 = .ok (.iastore, 1) := by decide +kernel
theorem dX10_more_19 : decode cX10_more 19 = .ok (.return_, 1) := by decide +kernel
theorem dX10_floor_0 : decode cX10_floor 0 = .ok (.iload_n 1, 1) := by decide +kernel
theorem dX10_floor_1 : decode cX10_floor 1 = .ok (.iconst 0, 1) := by decide +kernel
theorem dX10_floor_2 : decode cX10_floor 2 = .ok (.bipush 9, 2) := by decide +kernel
theorem dX10_floor_4 : decode cX10_floor 4 = .ok (.invokestatic 79, 3) := by decide +kernel
theorem dX10_floor_7 : decode cX10_floor 7 = .ok (.ifCond .eq 37, 3) := by decide +kernel
theorem dX10_floor_10 : decode cX10_floor 10 = .ok (.iload_n 2, 1) := by decide +kernel
theorem dX10_floor_11 : decode cX10_floor 11 = .ok (.ifCond .ne 13, 3) := by decide +kernel
theorem dX10_floor_14 : decode cX10_floor 14 = .ok (.iload_n 3, 1) := by decide +kernel
theorem dX10_floor_15 : decode cX10_floor 15 = .ok (.iconst 0, 1) := by decide +kernel
theorem dX10_floor_16 : decode cX10_floor 16 = .ok (.bipush 9, 2) := by decide +kernel
theorem dX10_floor_18 : decode cX10_floor 18 = .ok (.invokestatic 79, 3) := by decide +kernel
theorem dX10_floor_21 : decode cX10_floor 21 = .ok (.ifCond .ne 19, 3) := by decide +kernel
theorem dX10_floor_24 : decode cX10_floor 24 = .ok (.iload_n 2, 1) := by decide +kernel
theorem dX10_floor_25 : decode cX10_floor 25 = .ok (.iconst 1, 1) := by decide +kernel
theorem dX10_floor_26 : decode cX10_floor 26 = .ok (.if_icmp .ne 18, 3) := by decide +kernel
theorem dX10_floor_29 : decode cX10_floor 29 = .ok (.iload_n 3, 1) := by decide +kernel
theorem dX10_floor_30 : decode cX10_floor 30 = .ok (.bipush (-9), 2) := by decide +kernel
theorem dX10_floor_32 : decode cX10_floor 32 = .ok (.bipush 9, 2) := by decide +kernel
theorem dX10_floor_34 : decode cX10_floor 34 = .ok (.invokestatic 79, 3) := by decide +kernel
theorem dX10_floor_37 : decode cX10_floor 37 = .ok (.ifCond .eq 7, 3) := by decide +kernel
theorem dX10_floor_40 : decode cX10_floor 40 = .ok (.iconst 1, 1) := by decide +kernel
theorem dX10_floor_41 : decode cX10_floor 41 = .ok (.goto 4, 3) := by decide +kernel
theorem dX10_floor_44 : decode cX10_floor 44 = .ok (.iconst 0, 1) := by decide +kernel
theorem dX10_floor_45 : decode cX10_floor 45 = .ok (.istore 4, 2) := by decide +kernel
theorem dX10_floor_47 : decode cX10_floor 47 = .ok (.iload 4, 2) := by decide +kernel
theorem dX10_floor_49 : decode cX10_floor 49 = .ok (.ifCond .eq 19, 3) := by decide +kernel
theorem dX10_floor_52 : decode cX10_floor 52 = .ok (.aload_n 0, 1) := by decide +kernel
theorem dX10_floor_53 : decode cX10_floor 53 = .ok (.bipush 19, 2) := by decide +kernel
theorem dX10_floor_55 : decode cX10_floor 55 = .ok (.iconst 2, 1) := by decide +kernel
theorem dX10_floor_56 : decode cX10_floor 56 = .ok (.iload_n 1, 1) := by decide +kernel
theorem dX10_floor_57 : decode cX10_floor 57 = .ok (.imul, 1) := by decide +kernel
theorem dX10_floor_58 : decode cX10_floor 58 = .ok (.iadd, 1) := by decide +kernel
theorem dX10_floor_59 : decode cX10_floor 59 = .ok (.iload_n 2, 1) := by decide +kernel
theorem dX10_floor_60 : decode cX10_floor 60 = .ok (.iadd, 1) := by decide +kernel
theorem dX10_floor_61 : decode cX10_floor 61 = .ok (.iload_n 3, 1) := by decide +kernel
theorem dX10_floor_62 : decode cX10_floor 62 = .ok (.invokevirtual 88, 3) := by decide +kernel
theorem dX10_floor_65 : decode cX10_floor 65 = .ok (.goto 9, 3) := by decide +kernel
theorem dX10_floor_68 : decode cX10_floor 68 = .ok (.aload_n 0, 1) := by decide +kernel
theorem dX10_floor_69 : decode cX10_floor 69 = .ok (.ldc 91, 2) := by decide +kernel
theorem dX10_floor_71 : decode cX10_floor 71 = .ok (.invokevirtual 92, 3) := by decide +kernel
theorem dX10_floor_74 : decode cX10_floor 74 = .ok (.ireturn, 1) := by decide +kernel
theorem dX10_slip_0 : decode cX10_slip 0 = .ok (.aload_n 0, 1) := by decide +kernel
theorem dX10_slip_1 : decode cX10_slip 1 = .ok (.getfield 9, 3) := by decide +kernel
theorem dX10_slip_4 : decode cX10_slip 4 = .ok (.bipush 19, 2) := by decide +kernel
theorem dX10_slip_6 : decode cX10_slip 6 = .ok (.iconst 2, 1) := by decide +kernel
theorem dX10_slip_7 : decode cX10_slip 7 = .ok (.aload_n 0, 1) := by decide +kernel
theorem dX10_slip_8 : decode cX10_slip 8 = .ok (.getfield 9, 3) := by decide +kernel
theorem dX10_slip_11 : decode cX10_slip 11 = .ok (.iconst 0, 1) := by decide +kernel
theorem dX10_slip_12 : decode cX10_slip 12 = .ok (.iaload, 1) := by decide +kernel
theorem dX10_slip_13 : decode cX10_slip 13 = .ok (.bipush 10, 2) := by decide +kernel
theorem dX10_slip_15 : decode cX10_slip 15 = .ok (.idiv, 1) := by decide +kernel
theorem dX10_slip_16 : decode cX10_slip 16 = .ok (.imul, 1) := by decide +kernel
theorem dX10_slip_17 : decode cX10_slip 17 = .ok (.iadd, 1) := by decide +kernel
theorem dX10_slip_18 : decode cX10_slip 18 = .ok (.iaload, 1) := by decide +kernel
theorem dX10_slip_19 : decode cX10_slip 19 = .ok (.ireturn, 1) := by decide +kernel
theorem dX10_slope_0 : decode cX10_slope 0 = .ok (.aload_n 0, 1) := by decide +kernel
theorem dX10_slope_1 : decode cX10_slope 1 = .ok (.getfield 9, 3) := by decide +kernel
theorem dX10_slope_4 : decode cX10_slope 4 = .ok (.bipush 19, 2) := by decide +kernel
theorem dX10_slope_6 : decode cX10_slope 6 = .ok (.iconst 2, 1) := by decide +kernel
theorem dX10_slope_7 : decode cX10_slope 7 = .ok (.aload_n 0, 1) := by decide +kernel
theorem dX10_slope_8 : decode cX10_slope 8 = .ok (.getfield 9, 3) := by decide +kernel
theorem dX10_slope_11 : decode cX10_slope 11 = .ok (.iconst 0, 1) := by decide +kernel
theorem dX10_slope_12 : decode cX10_slope 12 = .ok (.iaload, 1) := by decide +kernel
theorem dX10_slope_13 : decode cX10_slope 13 = .ok (.bipush 10, 2) := by decide +kernel
theorem dX10_slope_15 : decode cX10_slope 15 = .ok (.idiv, 1) := by decide +kernel
theorem dX10_slope_16 : decode cX10_slope 16 = .ok (.imul, 1) := by decide +kernel
theorem dX10_slope_17 : decode cX10_slope 17 = .ok (.iadd, 1) := by decide +kernel
theorem dX10_slope_18 : decode cX10_slope 18 = .ok (.iconst 1, 1) := by decide +kernel
theorem dX10_slope_19 : decode cX10_slope 19 = .ok (.iadd, 1) := by decide +kernel
theorem dX10_slope_20 : decode cX10_slope 20 = .ok (.iaload, 1) := by decide +kernel
theorem dX10_slope_21 : decode cX10_slope 21 = .ok (.ireturn, 1) := by decide +kernel
theorem dX10_holdOf_0 : decode cX10_holdOf 0 = .ok (.aload_n 0, 1) := by decide +kernel
theorem dX10_holdOf_1 : decode cX10_holdOf 1 = .ok (.getfield 9, 3) := by decide +kernel
theorem dX10_holdOf_4 : decode cX10_holdOf 4 = .ok (.bipush 39, 2) := by decide +kernel
theorem dX10_holdOf_6 : decode cX10_holdOf 6 = .ok (.iconst 3, 1) := by decide +kernel
theorem dX10_holdOf_7 : decode cX10_holdOf 7 = .ok (.iload_n 1, 1) := by decide +kernel
theorem dX10_holdOf_8 : decode cX10_holdOf 8 = .ok (.imul, 1) := by decide +kernel
theorem dX10_holdOf_9 : decode cX10_holdOf 9 = .ok (.iadd, 1) := by decide +kernel
theorem dX10_holdOf_10 : decode cX10_holdOf 10 = .ok (.iload_n 2, 1) := by decide +kernel
theorem dX10_holdOf_11 : decode cX10_holdOf 11 = .ok (.iadd, 1) := by decide +kernel
theorem dX10_holdOf_12 : decode cX10_holdOf 12 = .ok (.iaload, 1) := by decide +kernel
theorem dX10_holdOf_13 : decode cX10_holdOf 13 = .ok (.ireturn, 1) := by decide +kernel
theorem dX10_isAsTold_0 : decode cX10_isAsTold 0 = .ok (.iload_n 0, 1) := by decide +kernel
theorem dX10_isAsTold_1 : decode cX10_isAsTold 1 = .ok (.iconst 0, 1) := by decide +kernel
theorem dX10_isAsTold_2 : decode cX10_isAsTold 2 = .ok (.bipush 99, 2) := by decide +kernel
theorem dX10_isAsTold_4 : decode cX10_isAsTold 4 = .ok (.invokestatic 79, 3) := by decide +kernel
theorem dX10_isAsTold_7 : decode cX10_isAsTold 7 = .ok (.ifCond .eq 17, 3) := by decide +kernel
theorem dX10_isAsTold_10 : decode cX10_isAsTold 10 = .ok (.iload_n 1, 1) := by decide +kernel
theorem dX10_isAsTold_11 : decode cX10_isAsTold 11 = .ok (.iconst 0, 1) := by decide +kernel
theorem dX10_isAsTold_12 : decode cX10_isAsTold 12 = .ok (.bipush 99, 2) := by decide +kernel
theorem dX10_isAsTold_14 : decode cX10_isAsTold 14 = .ok (.invokestatic 79, 3) := by decide +kernel
theorem dX10_isAsTold_17 : decode cX10_isAsTold 17 = .ok (.ifCond .eq 7, 3) := by decide +kernel
theorem dX10_isAsTold_20 : decode cX10_isAsTold 20 = .ok (.iconst 1, 1) := by decide +kernel
theorem dX10_isAsTold_21 : decode cX10_isAsTold 21 = .ok (.goto 4, 3) := by decide +kernel
theorem dX10_isAsTold_24 : decode cX10_isAsTold 24 = .ok (.iconst 0, 1) := by decide +kernel
theorem dX10_isAsTold_25 : decode cX10_isAsTold 25 = .ok (.ireturn, 1) := by decide +kernel
theorem dX10_stands_0 : decode cX10_stands 0 = .ok (.aload_n 0, 1) := by decide +kernel
theorem dX10_stands_1 : decode cX10_stands 1 = .ok (.getfield 9, 3) := by decide +kernel
theorem dX10_stands_4 : decode cX10_stands 4 = .ok (.bipush 14, 2) := by decide +kernel
theorem dX10_stands_6 : decode cX10_stands 6 = .ok (.iaload, 1) := by decide +kernel
theorem dX10_stands_7 : decode cX10_stands 7 = .ok (.istore_n 3, 1) := by decide +kernel
theorem dX10_stands_8 : decode cX10_stands 8 = .ok (.aload_n 0, 1) := by decide +kernel
theorem dX10_stands_9 : decode cX10_stands 9 = .ok (.getfield 9, 3) := by decide +kernel
theorem dX10_stands_12 : decode cX10_stands 12 = .ok (.bipush 39, 2) := by decide +kernel
theorem dX10_stands_14 : decode cX10_stands 14 = .ok (.iconst 3, 1) := by decide +kernel
theorem dX10_stands_15 : decode cX10_stands 15 = .ok (.iload_n 3, 1) := by decide +kernel
theorem dX10_stands_16 : decode cX10_stands 16 = .ok (.imul, 1) := by decide +kernel
theorem dX10_stands_17 : decode cX10_stands 17 = .ok (.iadd, 1) := by decide +kernel
theorem dX10_stands_18 : decode cX10_stands 18 = .ok (.iconst 0, 1) := by decide +kernel
theorem dX10_stands_19 : decode cX10_stands 19 = .ok (.iadd, 1) := by decide +kernel
theorem dX10_stands_20 : decode cX10_stands 20 = .ok (.iload_n 1, 1) := by decide +kernel
theorem dX10_stands_21 : decode cX10_stands 21 = .ok (.iastore, 1) := by decide +kernel
theorem dX10_stands_22 : decode cX10_stands 22 = .ok (.aload_n 0, 1) := by decide +kernel
theorem dX10_stands_23 : decode cX10_stands 23 = .ok (.getfield 9, 3) := by decide +kernel
theorem dX10_stands_26 : decode cX10_stands 26 = .ok (.bipush 39, 2) := by decide +kernel
theorem dX10_stands_28 : decode cX10_stands 28 = .ok (.iconst 3, 1) := by decide +kernel
theorem dX10_stands_29 : decode cX10_stands 29 = .ok (.iload_n 3, 1) := by decide +kernel
theorem dX10_stands_30 : decode cX10_stands 30 = .ok (.imul, 1) := by decide +kernel
theorem dX10_stands_31 : decode cX10_stands 31 = .ok (.iadd, 1) := by decide +kernel
theorem dX10_stands_32 : decode cX10_stands 32 = .ok (.iconst 1, 1) := by decide +kernel
theorem dX10_stands_33 : decode cX10_stands 33 = .ok (.iadd, 1) := by decide +kernel
theorem dX10_stands_34 : decode cX10_stands 34 = .ok (.iload_n 2, 1) := by decide +kernel
theorem dX10_stands_35 : decode cX10_stands 35 = .ok (.iastore, 1) := by decide +kernel
theorem dX10_stands_36 : decode cX10_stands 36 = .ok (.aload_n 0, 1) := by decide +kernel
theorem dX10_stands_37 : decode cX10_stands 37 = .ok (.getfield 9, 3) := by decide +kernel
theorem dX10_stands_40 : decode cX10_stands 40 = .ok (.bipush 39, 2) := by decide +kernel
theorem dX10_stands_42 : decode cX10_stands 42 = .ok (.iconst 3, 1) := by decide +kernel
theorem dX10_stands_43 : decode cX10_stands 43 = .ok (.iload_n 3, 1) := by decide +kernel
theorem dX10_stands_44 : decode cX10_stands 44 = .ok (.imul, 1) := by decide +kernel
theorem dX10_stands_45 : decode cX10_stands 45 = .ok (.iadd, 1) := by decide +kernel
theorem dX10_stands_46 : decode cX10_stands 46 = .ok (.iconst 2, 1) := by decide +kernel
theorem dX10_stands_47 : decode cX10_stands 47 = .ok (.iadd, 1) := by decide +kernel
theorem dX10_stands_48 : decode cX10_stands 48 = .ok (.iconst 0, 1) := by decide +kernel
theorem dX10_stands_49 : decode cX10_stands 49 = .ok (.iastore, 1) := by decide +kernel
theorem dX10_stands_50 : decode cX10_stands 50 = .ok (.aload_n 0, 1) := by decide +kernel
theorem dX10_stands_51 : decode cX10_stands 51 = .ok (.getfield 9, 3) := by decide +kernel
theorem dX10_stands_54 : decode cX10_stands 54 = .ok (.bipush 14, 2) := by decide +kernel
theorem dX10_stands_56 : decode cX10_stands 56 = .ok (.dup2, 1) := by decide +kernel
theorem dX10_stands_57 : decode cX10_stands 57 = .ok (.iaload, 1) := by decide +kernel
theorem dX10_stands_58 : decode cX10_stands 58 = .ok (.iconst 1, 1) := by decide +kernel
theorem dX10_stands_59 : decode cX10_stands 59 = .ok (.iadd, 1) := by decide +kernel
theorem dX10_stands_60 : decode cX10_stands 60 = .ok (.iastore, 1) := by decide +kernel
theorem dX10_stands_61 : decode cX10_stands 61 = .ok (.iload_n 3, 1) := by decide +kernel
theorem dX10_stands_62 : decode cX10_stands 62 = .ok (.ireturn, 1) := by decide +kernel
theorem dX10_hold_0 : decode cX10_hold 0 = .ok (.iload_n 1, 1) := by decide +kernel
theorem dX10_hold_1 : decode cX10_hold 1 = .ok (.iload_n 2, 1) := by decide +kernel
theorem dX10_hold_2 : decode cX10_hold 2 = .ok (.invokestatic 96, 3) := by decide +kernel
theorem dX10_hold_5 : decode cX10_hold 5 = .ok (.ifCond .ne 10, 3) := by decide +kernel
theorem dX10_hold_8 : decode cX10_hold 8 = .ok (.aload_n 0, 1) := by decide +kernel
theorem dX10_hold_9 : decode cX10_hold 9 = .ok (.ldc 91, 2) := by decide +kernel
theorem dX10_hold_11 : decode cX10_hold 11 = .ok (.invokevirtual 92, 3) := by decide +kernel
theorem dX10_hold_14 : decode cX10_hold 14 = .ok (.ireturn, 1) := by decide +kernel
theorem dX10_hold_15 : decode cX10_hold 15 = .ok (.aload_n 0, 1) := by decide +kernel
theorem dX10_hold_16 : decode cX10_hold 16 = .ok (.getfield 9, 3) := by decide +kernel
theorem dX10_hold_19 : decode cX10_hold 19 = .ok (.bipush 14, 2) := by decide +kernel
theorem dX10_hold_21 : decode cX10_hold 21 = .ok (.iaload, 1) := by decide +kernel
theorem dX10_hold_22 : decode cX10_hold 22 = .ok (.bipush 8, 2) := by decide +kernel
theorem dX10_hold_24 : decode cX10_hold 24 = .ok (.if_icmp .ne 12, 3) := by decide +kernel
theorem dX10_hold_27 : decode cX10_hold 27 = .ok (.aload_n 0, 1) := by decide +kernel
theorem dX10_hold_28 : decode cX10_hold 28 = .ok (.ldc 100, 2) := by decide +kernel
theorem dX10_hold_30 : decode cX10_hold 30 = .ok (.invokevirtual 92, 3) := by decide +kernel
theorem dX10_hold_33 : decode cX10_hold 33 = .ok (.goto 9, 3) := by decide +kernel
theorem dX10_hold_36 : decode cX10_hold 36 = .ok (.aload_n 0, 1) := by decide +kernel
theorem dX10_hold_37 : decode cX10_hold 37 = .ok (.iload_n 1, 1) := by decide +kernel
theorem dX10_hold_38 : decode cX10_hold 38 = .ok (.iload_n 2, 1) := by decide +kernel
theorem dX10_hold_39 : decode cX10_hold 39 = .ok (.invokevirtual 101, 3) := by decide +kernel
theorem dX10_hold_42 : decode cX10_hold 42 = .ok (.ireturn, 1) := by decide +kernel
theorem dX10_distance_0 : decode cX10_distance 0 = .ok (.aload_n 0, 1) := by decide +kernel
theorem dX10_distance_1 : decode cX10_distance 1 = .ok (.iload_n 1, 1) := by decide +kernel
theorem dX10_distance_2 : decode cX10_distance 2 = .ok (.iconst 0, 1) := by decide +kernel
theorem dX10_distance_3 : decode cX10_distance 3 = .ok (.invokevirtual 104, 3) := by decide +kernel
theorem dX10_distance_6 : decode cX10_distance 6 = .ok (.aload_n 0, 1) := by decide +kernel
theorem dX10_distance_7 : decode cX10_distance 7 = .ok (.getfield 9, 3) := by decide +kernel
theorem dX10_distance_10 : decode cX10_distance 10 = .ok (.iconst 0, 1) := by decide +kernel
theorem dX10_distance_11 : decode cX10_distance 11 = .ok (.iaload, 1) := by decide +kernel
theorem dX10_distance_12 : decode cX10_distance 12 = .ok (.isub, 1) := by decide +kernel
theorem dX10_distance_13 : decode cX10_distance 13 = .ok (.invokestatic 107, 3) := by decide +kernel
theorem dX10_distance_16 : decode cX10_distance 16 = .ok (.ireturn, 1) := by decide +kernel
theorem dX10_isAtHand_0 : decode cX10_isAtHand 0 = .ok (.aload_n 0, 1) := by decide +kernel
theorem dX10_isAtHand_1 : decode cX10_isAtHand 1 = .ok (.iload_n 1, 1) := by decide +kernel
theorem dX10_isAtHand_2 : decode cX10_isAtHand 2 = .ok (.invokevirtual 110, 3) := by decide +kernel
theorem dX10_isAtHand_5 : decode cX10_isAtHand 5 = .ok (.aload_n 0, 1) := by decide +kernel
theorem dX10_isAtHand_6 : decode cX10_isAtHand 6 = .ok (.getfield 9, 3) := by decide +kernel
theorem dX10_isAtHand_9 : decode cX10_isAtHand 9 = .ok (.iconst 2, 1) := by decide +kernel
theorem dX10_isAtHand_10 : decode cX10_isAtHand 10 = .ok (.iaload, 1) := by decide +kernel
theorem dX10_isAtHand_11 : decode cX10_isAtHand 11 = .ok (.if_icmp .gt 7, 3) := by decide +kernel
theorem dX10_isAtHand_14 : decode cX10_isAtHand 14 = .ok (.iconst 1, 1) := by decide +kernel
theorem dX10_isAtHand_15 : decode cX10_isAtHand 15 = .ok (.goto 4, 3) := by decide +kernel
theorem dX10_isAtHand_18 : decode cX10_isAtHand 18 = .ok (.iconst 0, 1) := by decide +kernel
theorem dX10_isAtHand_19 : decode cX10_isAtHand 19 = .ok (.ireturn, 1) := by decide +kernel
theorem dX10_holdIs_0 : decode cX10_holdIs 0 = .ok (.aload_n 0, 1) := by decide +kernel
theorem dX10_holdIs_1 : decode cX10_holdIs 1 = .ok (.iload_n 1, 1) := by decide +kernel
theorem dX10_holdIs_2 : decode cX10_holdIs 2 = .ok (.bipush 14, 2) := by decide +kernel
theorem dX10_holdIs_4 : decode cX10_holdIs 4 = .ok (.invokevirtual 113, 3) := by decide +kernel
theorem dX10_holdIs_7 : decode cX10_holdIs 7 = .ok (.ifCond .eq 12, 3) := by decide +kernel
theorem dX10_holdIs_10 : decode cX10_holdIs 10 = .ok (.iload_n 2, 1) := by decide +kernel
theorem dX10_holdIs_11 : decode cX10_holdIs 11 = .ok (.iconst 0, 1) := by decide +kernel
theorem dX10_holdIs_12 : decode cX10_holdIs 12 = .ok (.iconst 3, 1) := by decide +kernel
theorem dX10_holdIs_13 : decode cX10_holdIs 13 = .ok (.invokestatic 79, 3) := by decide +kernel
theorem dX10_holdIs_16 : decode cX10_holdIs 16 = .ok (.ifCond .ne 10, 3) := by decide +kernel
theorem dX10_holdIs_19 : decode cX10_holdIs 19 = .ok (.aload_n 0, 1) := by decide +kernel
theorem dX10_holdIs_20 : decode cX10_holdIs 20 = .ok (.ldc 91, 2) := by decide +kernel
theorem dX10_holdIs_22 : decode cX10_holdIs 22 = .ok (.invokevirtual 92, 3) := by decide +kernel
theorem dX10_holdIs_25 : decode cX10_holdIs 25 = .ok (.ireturn, 1) := by decide +kernel
theorem dX10_holdIs_26 : decode cX10_holdIs 26 = .ok (.iload_n 2, 1) := by decide +kernel
theorem dX10_holdIs_27 : decode cX10_holdIs 27 = .ok (.iconst 3, 1) := by decide +kernel
theorem dX10_holdIs_28 : decode cX10_holdIs 28 = .ok (.if_icmp .ge 12, 3) := by decide +kernel
theorem dX10_holdIs_31 : decode cX10_holdIs 31 = .ok (.aload_n 0, 1) := by decide +kernel
theorem dX10_holdIs_32 : decode cX10_holdIs 32 = .ok (.iload_n 1, 1) := by decide +kernel
theorem dX10_holdIs_33 : decode cX10_holdIs 33 = .ok (.iload_n 2, 1) := by decide +kernel
theorem dX10_holdIs_34 : decode cX10_holdIs 34 = .ok (.invokevirtual 104, 3) := by decide +kernel
theorem dX10_holdIs_37 : decode cX10_holdIs 37 = .ok (.goto 16, 3) := by decide +kernel
theorem dX10_holdIs_40 : decode cX10_holdIs 40 = .ok (.aload_n 0, 1) := by decide +kernel
theorem dX10_holdIs_41 : decode cX10_holdIs 41 = .ok (.iload_n 1, 1) := by decide +kernel
theorem dX10_holdIs_42 : decode cX10_holdIs 42 = .ok (.invokevirtual 116, 3) := by decide +kernel
theorem dX10_holdIs_45 : decode cX10_holdIs 45 = .ok (.ifCond .eq 7, 3) := by decide +kernel
theorem dX10_holdIs_48 : decode cX10_holdIs 48 = .ok (.iconst 1, 1) := by decide +kernel
theorem dX10_holdIs_49 : decode cX10_holdIs 49 = .ok (.goto 4, 3) := by decide +kernel
theorem dX10_holdIs_52 : decode cX10_holdIs 52 = .ok (.iconst 0, 1) := by decide +kernel
theorem dX10_holdIs_53 : decode cX10_holdIs 53 = .ok (.ireturn, 1) := by decide +kernel
theorem dX10_setHold_0 : decode cX10_setHold 0 = .ok (.aload_n 0, 1) := by decide +kernel
theorem dX10_setHold_1 : decode cX10_setHold 1 = .ok (.iload_n 1, 1) := by decide +kernel
theorem dX10_setHold_2 : decode cX10_setHold 2 = .ok (.bipush 14, 2) := by decide +kernel
theorem dX10_setHold_4 : decode cX10_setHold 4 = .ok (.invokevirtual 113, 3) := by decide +kernel
theorem dX10_setHold_7 : decode cX10_setHold 7 = .ok (.ifCond .eq 35, 3) := by decide +kernel
theorem dX10_setHold_10 : decode cX10_setHold 10 = .ok (.iload_n 2, 1) := by decide +kernel
theorem dX10_setHold_11 : decode cX10_setHold 11 = .ok (.iconst 0, 1) := by decide +kernel
theorem dX10_setHold_12 : decode cX10_setHold 12 = .ok (.iconst 2, 1) := by decide +kernel
theorem dX10_setHold_13 : decode cX10_setHold 13 = .ok (.invokestatic 79, 3) := by decide +kernel
theorem dX10_setHold_16 : decode cX10_setHold 16 = .ok (.ifCond .eq 26, 3) := by decide +kernel
theorem dX10_setHold_19 : decode cX10_setHold 19 = .ok (.iload_n 3, 1) := by decide +kernel
theorem dX10_setHold_20 : decode cX10_setHold 20 = .ok (.iconst 0, 1) := by decide +kernel
theorem dX10_setHold_21 : decode cX10_setHold 21 = .ok (.iload_n 2, 1) := by decide +kernel
theorem dX10_setHold_22 : decode cX10_setHold 22 = .ok (.iconst 2, 1) := by decide +kernel
theorem dX10_setHold_23 : decode cX10_setHold 23 = .ok (.if_icmp .ne 7, 3) := by decide +kernel
theorem dX10_setHold_26 : decode cX10_setHold 26 = .ok (.iconst 1, 1) := by decide +kernel
theorem dX10_setHold_27 : decode cX10_setHold 27 = .ok (.goto 5, 3) := by decide +kernel
theorem dX10_setHold_30 : decode cX10_setHold 30 = .ok (.bipush 99, 2) := by decide +kernel
theorem dX10_setHold_32 : decode cX10_setHold 32 = .ok (.invokestatic 79, 3) := by decide +kernel
theorem dX10_setHold_35 : decode cX10_setHold 35 = .ok (.ifCond .eq 7, 3) := by decide +kernel
theorem dX10_setHold_38 : decode cX10_setHold 38 = .ok (.iconst 1, 1) := by decide +kernel
theorem dX10_setHold_39 : decode cX10_setHold 39 = .ok (.goto 4, 3) := by decide +kernel
theorem dX10_setHold_42 : decode cX10_setHold 42 = .ok (.iconst 0, 1) := by decide +kernel
theorem dX10_setHold_43 : decode cX10_setHold 43 = .ok (.istore 4, 2) := by decide +kernel
theorem dX10_setHold_45 : decode cX10_setHold 45 = .ok (.iload 4, 2) := by decide +kernel
theorem dX10_setHold_47 : decode cX10_setHold 47 = .ok (.ifCond .eq 19, 3) := by decide +kernel
theorem dX10_setHold_50 : decode cX10_setHold 50 = .ok (.aload_n 0, 1) := by decide +kernel
theorem dX10_setHold_51 : decode cX10_setHold 51 = .ok (.bipush 39, 2) := by decide +kernel
theorem dX10_setHold_53 : decode cX10_setHold 53 = .ok (.iconst 3, 1) := by decide +kernel
theorem dX10_setHold_54 : decode cX10_setHold 54 = .ok (.iload_n 1, 1) := by decide +kernel
theorem dX10_setHold_55 : decode cX10_setHold 55 = .ok (.imul, 1) := by decide +kernel
theorem dX10_setHold_56 : decode cX10_setHold 56 = .ok (.iadd, 1) := by decide +kernel
theorem dX10_setHold_57 : decode cX10_setHold 57 = .ok (.iload_n 2, 1) := by decide +kernel
theorem dX10_setHold_58 : decode cX10_setHold 58 = .ok (.iadd, 1) := by decide +kernel
theorem dX10_setHold_59 : decode cX10_setHold 59 = .ok (.iload_n 3, 1) := by decide +kernel
theorem dX10_setHold_60 : decode cX10_setHold 60 = .ok (.invokevirtual 88, 3) := by decide +kernel
theorem dX10_setHold_63 : decode cX10_setHold 63 = .ok (.goto 9, 3) := by decide +kernel
theorem dX10_setHold_66 : decode cX10_setHold 66 = .ok (.aload_n 0, 1) := by decide +kernel
theorem dX10_setHold_67 : decode cX10_setHold 67 = .ok (.ldc 91, 2) := by decide +kernel
theorem dX10_setHold_69 : decode cX10_setHold 69 = .ok (.invokevirtual 92, 3) := by decide +kernel
theorem dX10_setHold_72 : decode cX10_setHold 72 = .ok (.ireturn, 1) := by decide +kernel
theorem dX10_set_0 : decode cX10_set 0 = .ok (.iload_n 1, 1) := by decide +kernel
theorem dX10_set_1 : decode cX10_set 1 = .ok (.iconst 0, 1) := by decide +kernel
theorem dX10_set_2 : decode cX10_set 2 = .ok (.bipush 6, 2) := by decide +kernel
theorem dX10_set_4 : decode cX10_set 4 = .ok (.invokestatic 79, 3) := by decide +kernel
theorem dX10_set_7 : decode cX10_set 7 = .ok (.ifCond .eq 31, 3) := by decide +kernel
theorem dX10_set_10 : decode cX10_set 10 = .ok (.iload_n 2, 1) := by decide +kernel
theorem dX10_set_11 : decode cX10_set 11 = .ok (.aload_n 0, 1) := by decide +kernel
theorem dX10_set_12 : decode cX10_set 12 = .ok (.getfield 22, 3) := by decide +kernel
theorem dX10_set_15 : decode cX10_set 15 = .ok (.iload_n 1, 1) := by decide +kernel
theorem dX10_set_16 : decode cX10_set 16 = .ok (.iaload, 1) := by decide +kernel
theorem dX10_set_17 : decode cX10_set 17 = .ok (.aload_n 0, 1) := by decide +kernel
theorem dX10_set_18 : decode cX10_set 18 = .ok (.getfield 25, 3) := by decide +kernel
theorem dX10_set_21 : decode cX10_set 21 = .ok (.iload_n 1, 1) := by decide +kernel
theorem dX10_set_22 : decode cX10_set 22 = .ok (.iaload, 1) := by decide +kernel
theorem dX10_set_23 : decode cX10_set 23 = .ok (.invokestatic 79, 3) := by decide +kernel
theorem dX10_set_26 : decode cX10_set 26 = .ok (.ifCond .eq 12, 3) := by decide +kernel
theorem dX10_set_29 : decode cX10_set 29 = .ok (.aload_n 0, 1) := by decide +kernel
theorem dX10_set_30 : decode cX10_set 30 = .ok (.iload_n 1, 1) := by decide +kernel
theorem dX10_set_31 : decode cX10_set 31 = .ok (.iload_n 2, 1) := by decide +kernel
theorem dX10_set_32 : decode cX10_set 32 = .ok (.invokevirtual 88, 3) := by decide +kernel
theorem dX10_set_35 : decode cX10_set 35 = .ok (.goto 9, 3) := by decide +kernel
theorem dX10_set_38 : decode cX10_set 38 = .ok (.aload_n 0, 1) := by decide +kernel
theorem dX10_set_39 : decode cX10_set 39 = .ok (.ldc 91, 2) := by decide +kernel
theorem dX10_set_41 : decode cX10_set 41 = .ok (.invokevirtual 92, 3) := by decide +kernel
theorem dX10_set_44 : decode cX10_set 44 = .ok (.ireturn, 1) := by decide +kernel
theorem dX10_is_0 : decode cX10_is 0 = .ok (.iload_n 1, 1) := by decide +kernel
theorem dX10_is_1 : decode cX10_is 1 = .ok (.iconst 0, 1) := by decide +kernel
theorem dX10_is_2 : decode cX10_is 2 = .ok (.bipush 13, 2) := by decide +kernel
theorem dX10_is_4 : decode cX10_is 4 = .ok (.invokestatic 79, 3) := by decide +kernel
theorem dX10_is_7 : decode cX10_is 7 = .ok (.ifCond .eq 12, 3) := by decide +kernel
theorem dX10_is_10 : decode cX10_is 10 = .ok (.aload_n 0, 1) := by decide +kernel
theorem dX10_is_11 : decode cX10_is 11 = .ok (.getfield 9, 3) := by decide +kernel
theorem dX10_is_14 : decode cX10_is 14 = .ok (.iload_n 1, 1) := by decide +kernel
theorem dX10_is_15 : decode cX10_is 15 = .ok (.iaload, 1) := by decide +kernel
theorem dX10_is_16 : decode cX10_is 16 = .ok (.goto 9, 3) := by decide +kernel
theorem dX10_is_19 : decode cX10_is 19 = .ok (.aload_n 0, 1) := by decide +kernel
theorem dX10_is_20 : decode cX10_is 20 = .ok (.ldc 91, 2) := by decide +kernel
theorem dX10_is_22 : decode cX10_is 22 = .ok (.invokevirtual 92, 3) := by decide +kernel
theorem dX10_is_25 : decode cX10_is 25 = .ok (.ireturn, 1) := by decide +kernel
theorem dX10_nearestOf_0 : decode cX10_nearestOf 0 = .ok (.iconst (-1), 1) := by decide +kernel
theorem dX10_nearestOf_1 : decode cX10_nearestOf 1 = .ok (.istore_n 1, 1) := by decide +kernel
theorem dX10_nearestOf_2 : decode cX10_nearestOf 2 = .ok (.iconst 0, 1) := by decide +kernel
theorem dX10_nearestOf_3 : decode cX10_nearestOf 3 = .ok (.istore_n 2, 1) := by decide +kernel
theorem dX10_nearestOf_4 : decode cX10_nearestOf 4 = .ok (.iload_n 2, 1) := by decide +kernel
theorem dX10_nearestOf_5 : decode cX10_nearestOf 5 = .ok (.aload_n 0, 1) := by decide +kernel
theorem dX10_nearestOf_6 : decode cX10_nearestOf 6 = .ok (.getfield 9, 3) := by decide +kernel
theorem dX10_nearestOf_9 : decode cX10_nearestOf 9 = .ok (.bipush 14, 2) := by decide +kernel
theorem dX10_nearestOf_11 : decode cX10_nearestOf 11 = .ok (.iaload, 1) := by decide +kernel
theorem dX10_nearestOf_12 : decode cX10_nearestOf 12 = .ok (.if_icmp .ge 32, 3) := by decide +kernel
theorem dX10_nearestOf_15 : decode cX10_nearestOf 15 = .ok (.iload_n 1, 1) := by decide +kernel
theorem dX10_nearestOf_16 : decode cX10_nearestOf 16 = .ok (.ifCond .lt 16, 3) := by decide +kernel
theorem dX10_nearestOf_19 : decode cX10_nearestOf 19 = .ok (.aload_n 0, 1) := by decide +kernel
theorem dX10_nearestOf_20 : decode cX10_nearestOf 20 = .ok (.iload_n 2, 1) := by decide +kernel
theorem dX10_nearestOf_21 : decode cX10_nearestOf 21 = .ok (.invokevirtual 110, 3) := by decide +kernel
theorem dX10_nearestOf_24 : decode cX10_nearestOf 24 = .ok (.aload_n 0, 1) := by decide +kernel
theorem dX10_nearestOf_25 : decode cX10_nearestOf 25 = .ok (.iload_n 1, 1) := by decide +kernel
theorem dX10_nearestOf_26 : decode cX10_nearestOf 26 = .ok (.invokevirtual 110, 3) := by decide +kernel
theorem dX10_nearestOf_29 : decode cX10_nearestOf 29 = .ok (.if_icmp .ge 7, 3) := by decide +kernel
theorem dX10_nearestOf_32 : decode cX10_nearestOf 32 = .ok (.iload_n 2, 1) := by decide +kernel
theorem dX10_nearestOf_33 : decode cX10_nearestOf 33 = .ok (.goto 4, 3) := by decide +kernel
theorem dX10_nearestOf_36 : decode cX10_nearestOf 36 = .ok (.iload_n 1, 1) := by decide +kernel
theorem dX10_nearestOf_37 : decode cX10_nearestOf 37 = .ok (.istore_n 1, 1) := by decide +kernel
theorem dX10_nearestOf_38 : decode cX10_nearestOf 38 = .ok (.iinc 2 1, 3) := by decide +kernel
theorem dX10_nearestOf_41 : decode cX10_nearestOf 41 = .ok (.goto (-37), 3) := by decide +kernel
theorem dX10_nearestOf_44 : decode cX10_nearestOf 44 = .ok (.iload_n 1, 1) := by decide +kernel
theorem dX10_nearestOf_45 : decode cX10_nearestOf 45 = .ok (.ireturn, 1) := by decide +kernel
theorem dX10_nearest_0 : decode cX10_nearest 0 = .ok (.aload_n 0, 1) := by decide +kernel
theorem dX10_nearest_1 : decode cX10_nearest 1 = .ok (.invokevirtual 120, 3) := by decide +kernel
theorem dX10_nearest_4 : decode cX10_nearest 4 = .ok (.istore_n 1, 1) := by decide +kernel
theorem dX10_nearest_5 : decode cX10_nearest 5 = .ok (.iload_n 1, 1) := by decide +kernel
theorem dX10_nearest_6 : decode cX10_nearest 6 = .ok (.ifCond .ge 12, 3) := by decide +kernel
theorem dX10_nearest_9 : decode cX10_nearest 9 = .ok (.aload_n 0, 1) := by decide +kernel
theorem dX10_nearest_10 : decode cX10_nearest 10 = .ok (.ldc 124, 2) := by decide +kernel
theorem dX10_nearest_12 : decode cX10_nearest 12 = .ok (.invokevirtual 92, 3) := by decide +kernel
theorem dX10_nearest_15 : decode cX10_nearest 15 = .ok (.goto 4, 3) := by decide +kernel
theorem dX10_nearest_18 : decode cX10_nearest 18 = .ok (.iload_n 1, 1) := by decide +kernel
theorem dX10_nearest_19 : decode cX10_nearest 19 = .ok (.ireturn, 1) := by decide +kernel
theorem dX10_hasAtHand_0 : decode cX10_hasAtHand 0 = .ok (.aload_n 0, 1) := by decide +kernel
theorem dX10_hasAtHand_1 : decode cX10_hasAtHand 1 = .ok (.invokevirtual 120, 3) := by decide +kernel
theorem dX10_hasAtHand_4 : decode cX10_hasAtHand 4 = .ok (.istore_n 1, 1) := by decide +kernel
theorem dX10_hasAtHand_5 : decode cX10_hasAtHand 5 = .ok (.iload_n 1, 1) := by decide +kernel
theorem dX10_hasAtHand_6 : decode cX10_hasAtHand 6 = .ok (.ifCond .lt 15, 3) := by decide +kernel
theorem dX10_hasAtHand_9 : decode cX10_hasAtHand 9 = .ok (.aload_n 0, 1) := by decide +kernel
theorem dX10_hasAtHand_10 : decode cX10_hasAtHand 10 = .ok (.iload_n 1, 1) := by decide +kernel
theorem dX10_hasAtHand_11 : decode cX10_hasAtHand 11 = .ok (.invokevirtual 116, 3) := by decide +kernel
theorem dX10_hasAtHand_14 : decode cX10_hasAtHand 14 = .ok (.ifCond .eq 7, 3) := by decide +kernel
theorem dX10_hasAtHand_17 : decode cX10_hasAtHand 17 = .ok (.iconst 1, 1) := by decide +kernel
theorem dX10_hasAtHand_18 : decode cX10_hasAtHand 18 = .ok (.goto 4, 3) := by decide +kernel
theorem dX10_hasAtHand_21 : decode cX10_hasAtHand 21 = .ok (.iconst 0, 1) := by decide +kernel
theorem dX10_hasAtHand_22 : decode cX10_hasAtHand 22 = .ok (.ireturn, 1) := by decide +kernel
theorem dX10_goingOf_0 : decode cX10_goingOf 0 = .ok (.aload_n 0, 1) := by decide +kernel
theorem dX10_goingOf_1 : decode cX10_goingOf 1 = .ok (.getfield 9, 3) := by decide +kernel
theorem dX10_goingOf_4 : decode cX10_goingOf 4 = .ok (.bipush 63, 2) := by decide +kernel
theorem dX10_goingOf_6 : decode cX10_goingOf 6 = .ok (.iconst 3, 1) := by decide +kernel
theorem dX10_goingOf_7 : decode cX10_goingOf 7 = .ok (.iload_n 1, 1) := by decide +kernel
theorem dX10_goingOf_8 : decode cX10_goingOf 8 = .ok (.imul, 1) := by decide +kernel
theorem dX10_goingOf_9 : decode cX10_goingOf 9 = .ok (.iadd, 1) := by decide +kernel
theorem dX10_goingOf_10 : decode cX10_goingOf 10 = .ok (.iload_n 2, 1) := by decide +kernel
theorem dX10_goingOf_11 : decode cX10_goingOf 11 = .ok (.iadd, 1) := by decide +kernel
theorem dX10_goingOf_12 : decode cX10_goingOf 12 = .ok (.iaload, 1) := by decide +kernel
theorem dX10_goingOf_13 : decode cX10_goingOf 13 = .ok (.ireturn, 1) := by decide +kernel
theorem dX10_comesNow_0 : decode cX10_comesNow 0 = .ok (.aload_n 0, 1) := by decide +kernel
theorem dX10_comesNow_1 : decode cX10_comesNow 1 = .ok (.getfield 9, 3) := by decide +kernel
theorem dX10_comesNow_4 : decode cX10_comesNow 4 = .ok (.bipush 11, 2) := by decide +kernel
theorem dX10_comesNow_6 : decode cX10_comesNow 6 = .ok (.iload_n 1, 1) := by decide +kernel
theorem dX10_comesNow_7 : decode cX10_comesNow 7 = .ok (.iastore, 1) := by decide +kernel
theorem dX10_comesNow_8 : decode cX10_comesNow 8 = .ok (.aload_n 0, 1) := by decide +kernel
theorem dX10_comesNow_9 : decode cX10_comesNow 9 = .ok (.getfield 9, 3) := by decide +kernel
theorem dX10_comesNow_12 : decode cX10_comesNow 12 = .ok (.bipush 12, 2) := by decide +kernel
theorem dX10_comesNow_14 : decode cX10_comesNow 14 = .ok (.aload_n 0, 1) := by decide +kernel
theorem dX10_comesNow_15 : decode cX10_comesNow 15 = .ok (.getfield 9, 3) := by decide +kernel
theorem dX10_comesNow_18 : decode cX10_comesNow 18 = .ok (.bipush 15, 2) := by decide +kernel
theorem dX10_comesNow_20 : decode cX10_comesNow 20 = .ok (.iaload, 1) := by decide +kernel
theorem dX10_comesNow_21 : decode cX10_comesNow 21 = .ok (.ifCond .ne 7, 3) := by decide +kernel
theorem dX10_comesNow_24 : decode cX10_comesNow 24 = .ok (.iconst 0, 1) := by decide +kernel
theorem dX10_comesNow_25 : decode cX10_comesNow 25 = .ok (.goto 9, 3) := by decide +kernel
theorem dX10_comesNow_28 : decode cX10_comesNow 28 = .ok (.aload_n 0, 1) := by decide +kernel
theorem dX10_comesNow_29 : decode cX10_comesNow 29 = .ok (.iload_n 1, 1) := by decide +kernel
theorem dX10_comesNow_30 : decode cX10_comesNow 30 = .ok (.iconst 2, 1) := by decide +kernel
theorem dX10_comesNow_31 : decode cX10_comesNow 31 = .ok (.invokevirtual 125, 3) := by decide +kernel
theorem dX10_comesNow_34 : decode cX10_comesNow 34 = .ok (.iastore, 1) := by decide +kernel
theorem dX10_comesNow_35 : decode cX10_comesNow 35 = .ok (.return_, 1) := by decide +kernel
theorem dX10_going_0 : decode cX10_going 0 = .ok (.iload_n 1, 1) := by decide +kernel
theorem dX10_going_1 : decode cX10_going 1 = .ok (.iconst 0, 1) := by decide +kernel
theorem dX10_going_2 : decode cX10_going 2 = .ok (.sipush 699, 3) := by decide +kernel
theorem dX10_going_5 : decode cX10_going 5 = .ok (.invokestatic 79, 3) := by decide +kernel
theorem dX10_going_8 : decode cX10_going 8 = .ok (.ifCond .eq 13, 3) := by decide +kernel
theorem dX10_going_11 : decode cX10_going 11 = .ok (.iload_n 2, 1) := by decide +kernel
theorem dX10_going_12 : decode cX10_going 12 = .ok (.iconst 1, 1) := by decide +kernel
theorem dX10_going_13 : decode cX10_going 13 = .ok (.bipush 60, 2) := by decide +kernel
theorem dX10_going_15 : decode cX10_going 15 = .ok (.invokestatic 79, 3) := by decide +kernel
theorem dX10_going_18 : decode cX10_going 18 = .ok (.ifCond .ne 10, 3) := by decide +kernel
theorem dX10_going_21 : decode cX10_going 21 = .ok (.aload_n 0, 1) := by decide +kernel
theorem dX10_going_22 : decode cX10_going 22 = .ok (.ldc 91, 2) := by decide +kernel
theorem dX10_going_24 : decode cX10_going 24 = .ok (.invokevirtual 92, 3) := by decide +kernel
theorem dX10_going_27 : decode cX10_going 27 = .ok (.ireturn, 1) := by decide +kernel
theorem dX10_going_28 : decode cX10_going 28 = .ok (.aload_n 0, 1) := by decide +kernel
theorem dX10_going_29 : decode cX10_going 29 = .ok (.getfield 9, 3) := by decide +kernel
theorem dX10_going_32 : decode cX10_going 32 = .ok (.bipush 15, 2) := by decide +kernel
theorem dX10_going_34 : decode cX10_going 34 = .ok (.iaload, 1) := by decide +kernel
theorem dX10_going_35 : decode cX10_going 35 = .ok (.istore_n 3, 1) := by decide +kernel
theorem dX10_going_36 : decode cX10_going 36 = .ok (.iload_n 3, 1) := by decide +kernel
theorem dX10_going_37 : decode cX10_going 37 = .ok (.bipush 8, 2) := by decide +kernel
theorem dX10_going_39 : decode cX10_going 39 = .ok (.if_icmp .ne 10, 3) := by decide +kernel
theorem dX10_going_42 : decode cX10_going 42 = .ok (.aload_n 0, 1) := by decide +kernel
theorem dX10_going_43 : decode cX10_going 43 = .ok (.ldc 100, 2) := by decide +kernel
theorem dX10_going_45 : decode cX10_going 45 = .ok (.invokevirtual 92, 3) := by decide +kernel
theorem dX10_going_48 : decode cX10_going 48 = .ok (.ireturn, 1) := by decide +kernel
theorem dX10_going_49 : decode cX10_going 49 = .ok (.aload_n 0, 1) := by decide +kernel
theorem dX10_going_50 : decode cX10_going 50 = .ok (.getfield 9, 3) := by decide +kernel
theorem dX10_going_53 : decode cX10_going 53 = .ok (.bipush 63, 2) := by decide +kernel
theorem dX10_going_55 : decode cX10_going 55 = .ok (.iconst 3, 1) := by decide +kernel
theorem dX10_going_56 : decode cX10_going 56 = .ok (.iload_n 3, 1) := by decide +kernel
theorem dX10_going_57 : decode cX10_going 57 = .ok (.imul, 1) := by decide +kernel
theorem dX10_going_58 : decode cX10_going 58 = .ok (.iadd, 1) := by decide +kernel
theorem dX10_going_59 : decode cX10_going 59 = .ok (.iconst 0, 1) := by decide +kernel
theorem dX10_going_60 : decode cX10_going 60 = .ok (.iadd, 1) := by decide +kernel
theorem dX10_going_61 : decode cX10_going 61 = .ok (.iload_n 1, 1) := by decide +kernel
theorem dX10_going_62 : decode cX10_going 62 = .ok (.bipush 100, 2) := by decide +kernel
theorem dX10_going_64 : decode cX10_going 64 = .ok (.idiv, 1) := by decide +kernel
theorem dX10_going_65 : decode cX10_going 65 = .ok (.iastore, 1) := by decide +kernel
theorem dX10_going_66 : decode cX10_going 66 = .ok (.aload_n 0, 1) := by decide +kernel
theorem dX10_going_67 : decode cX10_going 67 = .ok (.getfield 9, 3) := by decide +kernel
theorem dX10_going_70 : decode cX10_going 70 = .ok (.bipush 63, 2) := by decide +kernel
theorem dX10_going_72 : decode cX10_going 72 = .ok (.iconst 3, 1) := by decide +kernel
theorem dX10_going_73 : decode cX10_going 73 = .ok (.iload_n 3, 1) := by decide +kernel
theorem dX10_going_74 : decode cX10_going 74 = .ok (.imul, 1) := by decide +kernel
theorem dX10_going_75 : decode cX10_going 75 = .ok (.iadd, 1) := by decide +kernel
theorem dX10_going_76 : decode cX10_going 76 = .ok (.iconst 1, 1) := by decide +kernel
theorem dX10_going_77 : decode cX10_going 77 = .ok (.iadd, 1) := by decide +kernel
theorem dX10_going_78 : decode cX10_going 78 = .ok (.iload_n 1, 1) := by decide +kernel
theorem dX10_going_79 : decode cX10_going 79 = .ok (.bipush 100, 2) := by decide +kernel
theorem dX10_going_81 : decode cX10_going 81 = .ok (.irem, 1) := by decide +kernel
theorem dX10_going_82 : decode cX10_going 82 = .ok (.iastore, 1) := by decide +kernel
theorem dX10_going_83 : decode cX10_going 83 = .ok (.aload_n 0, 1) := by decide +kernel
theorem dX10_going_84 : decode cX10_going 84 = .ok (.getfield 9, 3) := by decide +kernel
theorem dX10_going_87 : decode cX10_going 87 = .ok (.bipush 63, 2) := by decide +kernel
theorem dX10_going_89 : decode cX10_going 89 = .ok (.iconst 3, 1) := by decide +kernel
theorem dX10_going_90 : decode cX10_going 90 = .ok (.iload_n 3, 1) := by decide +kernel
theorem dX10_going_91 : decode cX10_going 91 = .ok (.imul, 1) := by decide +kernel
theorem dX10_going_92 : decode cX10_going 92 = .ok (.iadd, 1) := by decide +kernel
theorem dX10_going_93 : decode cX10_going 93 = .ok (.iconst 2, 1) := by decide +kernel
theorem dX10_going_94 : decode cX10_going 94 = .ok (.iadd, 1) := by decide +kernel
theorem dX10_going_95 : decode cX10_going 95 = .ok (.iload_n 2, 1) := by decide +kernel
theorem dX10_going_96 : decode cX10_going 96 = .ok (.iastore, 1) := by decide +kernel
theorem dX10_going_97 : decode cX10_going 97 = .ok (.aload_n 0, 1) := by decide +kernel
theorem dX10_going_98 : decode cX10_going 98 = .ok (.getfield 9, 3) := by decide +kernel
theorem dX10_going_101 : decode cX10_going 101 = .ok (.bipush 15, 2) := by decide +kernel
theorem dX10_going_103 : decode cX10_going 103 = .ok (.dup2, 1) := by decide +kernel
theorem dX10_going_104 : decode cX10_going 104 = .ok (.iaload, 1) := by decide +kernel
theorem dX10_going_105 : decode cX10_going 105 = .ok (.iconst 1, 1) := by decide +kernel
theorem dX10_going_106 : decode cX10_going 106 = .ok (.iadd, 1) := by decide +kernel
theorem dX10_going_107 : decode cX10_going 107 = .ok (.iastore, 1) := by decide +kernel
theorem dX10_going_108 : decode cX10_going 108 = .ok (.iload_n 3, 1) := by decide +kernel
theorem dX10_going_109 : decode cX10_going 109 = .ok (.ifCond .ne 8, 3) := by decide +kernel
theorem dX10_going_112 : decode cX10_going 112 = .ok (.aload_n 0, 1) := by decide +kernel
theorem dX10_going_113 : decode cX10_going 113 = .ok (.iconst 0, 1) := by decide +kernel
theorem dX10_going_114 : decode cX10_going 114 = .ok (.invokevirtual 128, 3) := by decide +kernel
theorem dX10_going_117 : decode cX10_going 117 = .ok (.iload_n 3, 1) := by decide +kernel
theorem dX10_going_118 : decode cX10_going 118 = .ok (.ireturn, 1) := by decide +kernel
theorem dX10_swaysOf_0 : decode cX10_swaysOf 0 = .ok (.aload_n 0, 1) := by decide +kernel
theorem dX10_swaysOf_1 : decode cX10_swaysOf 1 = .ok (.getfield 9, 3) := by decide +kernel
theorem dX10_swaysOf_4 : decode cX10_swaysOf 4 = .ok (.iconst 3, 1) := by decide +kernel
theorem dX10_swaysOf_5 : decode cX10_swaysOf 5 = .ok (.iaload, 1) := by decide +kernel
theorem dX10_swaysOf_6 : decode cX10_swaysOf 6 = .ok (.istore_n 2, 1) := by decide +kernel
theorem dX10_swaysOf_7 : decode cX10_swaysOf 7 = .ok (.aload_n 0, 1) := by decide +kernel
theorem dX10_swaysOf_8 : decode cX10_swaysOf 8 = .ok (.iload_n 1, 1) := by decide +kernel
theorem dX10_swaysOf_9 : decode cX10_swaysOf 9 = .ok (.iconst 0, 1) := by decide +kernel
theorem dX10_swaysOf_10 : decode cX10_swaysOf 10 = .ok (.invokevirtual 125, 3) := by decide +kernel
theorem dX10_swaysOf_13 : decode cX10_swaysOf 13 = .ok (.tableswitch 74 1 6 #[39, 39, 74, 54, 74, 72], 39) := by decide +kernel
theorem dX10_swaysOf_52 : decode cX10_swaysOf 52 = .ok (.aload_n 0, 1) := by decide +kernel
theorem dX10_swaysOf_53 : decode cX10_swaysOf 53 = .ok (.invokevirtual 132, 3) := by decide +kernel
theorem dX10_swaysOf_56 : decode cX10_swaysOf 56 = .ok (.ifCond .eq 9, 3) := by decide +kernel
theorem dX10_swaysOf_59 : decode cX10_swaysOf 59 = .ok (.iload_n 2, 1) := by decide +kernel
theorem dX10_swaysOf_60 : decode cX10_swaysOf 60 = .ok (.iconst 3, 1) := by decide +kernel
theorem dX10_swaysOf_61 : decode cX10_swaysOf 61 = .ok (.idiv, 1) := by decide +kernel
theorem dX10_swaysOf_62 : decode cX10_swaysOf 62 = .ok (.goto 4, 3) := by decide +kernel
theorem dX10_swaysOf_65 : decode cX10_swaysOf 65 = .ok (.iload_n 2, 1) := by decide +kernel
theorem dX10_swaysOf_66 : decode cX10_swaysOf 66 = .ok (.ireturn, 1) := by decide +kernel
theorem dX10_swaysOf_67 : decode cX10_swaysOf 67 = .ok (.iload_n 2, 1) := by decide +kernel
theorem dX10_swaysOf_68 : decode cX10_swaysOf 68 = .ok (.aload_n 0, 1) := by decide +kernel
theorem dX10_swaysOf_69 : decode cX10_swaysOf 69 = .ok (.iload_n 1, 1) := by decide +kernel
theorem dX10_swaysOf_70 : decode cX10_swaysOf 70 = .ok (.iconst 1, 1) := by decide +kernel
theorem dX10_swaysOf_71 : decode cX10_swaysOf 71 = .ok (.invokevirtual 125, 3) := by decide +kernel
theorem dX10_swaysOf_74 : decode cX10_swaysOf 74 = .ok (.bipush 25, 2) := by decide +kernel
theorem dX10_swaysOf_76 : decode cX10_swaysOf 76 = .ok (.idiv, 1) := by decide +kernel
theorem dX10_swaysOf_77 : decode cX10_swaysOf 77 = .ok (.iadd, 1) := by decide +kernel
theorem dX10_swaysOf_78 : decode cX10_swaysOf 78 = .ok (.iconst 0, 1) := by decide +kernel
theorem dX10_swaysOf_79 : decode cX10_swaysOf 79 = .ok (.bipush 9, 2) := by decide +kernel
theorem dX10_swaysOf_81 : decode cX10_swaysOf 81 = .ok (.invokestatic 136, 3) := by decide +kernel
theorem dX10_swaysOf_84 : decode cX10_swaysOf 84 = .ok (.ireturn, 1) := by decide +kernel
theorem dX10_swaysOf_85 : decode cX10_swaysOf 85 = .ok (.iconst 0, 1) := by decide +kernel
theorem dX10_swaysOf_86 : decode cX10_swaysOf 86 = .ok (.ireturn, 1) := by decide +kernel
theorem dX10_swaysOf_87 : decode cX10_swaysOf 87 = .ok (.iload_n 2, 1) := by decide +kernel
theorem dX10_swaysOf_88 : decode cX10_swaysOf 88 = .ok (.ireturn, 1) := by decide +kernel
theorem dX10_strideOf_0 : decode cX10_strideOf 0 = .ok (.aload_n 0, 1) := by decide +kernel
theorem dX10_strideOf_1 : decode cX10_strideOf 1 = .ok (.iload_n 1, 1) := by decide +kernel
theorem dX10_strideOf_2 : decode cX10_strideOf 2 = .ok (.iconst 0, 1) := by decide +kernel
theorem dX10_strideOf_3 : decode cX10_strideOf 3 = .ok (.invokevirtual 125, 3) := by decide +kernel
theorem dX10_strideOf_6 : decode cX10_strideOf 6 = .ok (.tableswitch 51 1 5 #[34, 47, 49, 49, 49], 34) := by decide +kernel
theorem dX10_strideOf_40 : decode cX10_strideOf 40 = .ok (.aload_n 0, 1) := by decide +kernel
theorem dX10_strideOf_41 : decode cX10_strideOf 41 = .ok (.invokevirtual 132, 3) := by decide +kernel
theorem dX10_strideOf_44 : decode cX10_strideOf 44 = .ok (.ifCond .eq 7, 3) := by decide +kernel
theorem dX10_strideOf_47 : decode cX10_strideOf 47 = .ok (.iconst 1, 1) := by decide +kernel
theorem dX10_strideOf_48 : decode cX10_strideOf 48 = .ok (.goto 4, 3) := by decide +kernel
theorem dX10_strideOf_51 : decode cX10_strideOf 51 = .ok (.iconst 0, 1) := by decide +kernel
theorem dX10_strideOf_52 : decode cX10_strideOf 52 = .ok (.ireturn, 1) := by decide +kernel
theorem dX10_strideOf_53 : decode cX10_strideOf 53 = .ok (.iconst 1, 1) := by decide +kernel
theorem dX10_strideOf_54 : decode cX10_strideOf 54 = .ok (.ireturn, 1) := by decide +kernel
theorem dX10_strideOf_55 : decode cX10_strideOf 55 = .ok (.iconst 2, 1) := by decide +kernel
theorem dX10_strideOf_56 : decode cX10_strideOf 56 = .ok (.ireturn, 1) := by decide +kernel
theorem dX10_strideOf_57 : decode cX10_strideOf 57 = .ok (.iconst 0, 1) := by decide +kernel
theorem dX10_strideOf_58 : decode cX10_strideOf 58 = .ok (.ireturn, 1) := by decide +kernel
theorem dX10_paceOf_0 : decode cX10_paceOf 0 = .ok (.aload_n 0, 1) := by decide +kernel
theorem dX10_paceOf_1 : decode cX10_paceOf 1 = .ok (.iload_n 1, 1) := by decide +kernel
theorem dX10_paceOf_2 : decode cX10_paceOf 2 = .ok (.iconst 0, 1) := by decide +kernel
theorem dX10_paceOf_3 : decode cX10_paceOf 3 = .ok (.invokevirtual 125, 3) := by decide +kernel
theorem dX10_paceOf_6 : decode cX10_paceOf 6 = .ok (.tableswitch 62 1 5 #[34, 47, 60, 60, 60], 34) := by decide +kernel
theorem dX10_paceOf_40 : decode cX10_paceOf 40 = .ok (.aload_n 0, 1) := by decide +kernel
theorem dX10_paceOf_41 : decode cX10_paceOf 41 = .ok (.invokevirtual 132, 3) := by decide +kernel
theorem dX10_paceOf_44 : decode cX10_paceOf 44 = .ok (.ifCond .eq 7, 3) := by decide +kernel
theorem dX10_paceOf_47 : decode cX10_paceOf 47 = .ok (.iconst 4, 1) := by decide +kernel
theorem dX10_paceOf_48 : decode cX10_paceOf 48 = .ok (.goto 4, 3) := by decide +kernel
theorem dX10_paceOf_51 : decode cX10_paceOf 51 = .ok (.iconst 0, 1) := by decide +kernel
theorem dX10_paceOf_52 : decode cX10_paceOf 52 = .ok (.ireturn, 1) := by decide +kernel
theorem dX10_paceOf_53 : decode cX10_paceOf 53 = .ok (.aload_n 0, 1) := by decide +kernel
theorem dX10_paceOf_54 : decode cX10_paceOf 54 = .ok (.invokevirtual 132, 3) := by decide +kernel
theorem dX10_paceOf_57 : decode cX10_paceOf 57 = .ok (.ifCond .eq 7, 3) := by decide +kernel
theorem dX10_paceOf_60 : decode cX10_paceOf 60 = .ok (.iconst 4, 1) := by decide +kernel
theorem dX10_paceOf_61 : decode cX10_paceOf 61 = .ok (.goto 4, 3) := by decide +kernel
theorem dX10_paceOf_64 : decode cX10_paceOf 64 = .ok (.iconst 3, 1) := by decide +kernel
theorem dX10_paceOf_65 : decode cX10_paceOf 65 = .ok (.ireturn, 1) := by decide +kernel
theorem dX10_paceOf_66 : decode cX10_paceOf 66 = .ok (.iconst 3, 1) := by decide +kernel
theorem dX10_paceOf_67 : decode cX10_paceOf 67 = .ok (.ireturn, 1) := by decide +kernel
theorem dX10_paceOf_68 : decode cX10_paceOf 68 = .ok (.iconst 0, 1) := by decide +kernel
theorem dX10_paceOf_69 : decode cX10_paceOf 69 = .ok (.ireturn, 1) := by decide +kernel
theorem dX10_catchOf_0 : decode cX10_catchOf 0 = .ok (.aload_n 0, 1) := by decide +kernel
theorem dX10_catchOf_1 : decode cX10_catchOf 1 = .ok (.getfield 9, 3) := by decide +kernel
theorem dX10_catchOf_4 : decode cX10_catchOf 4 = .ok (.iconst 4, 1) := by decide +kernel
theorem dX10_catchOf_5 : decode cX10_catchOf 5 = .ok (.iaload, 1) := by decide +kernel
theorem dX10_catchOf_6 : decode cX10_catchOf 6 = .ok (.aload_n 0, 1) := by decide +kernel
theorem dX10_catchOf_7 : decode cX10_catchOf 7 = .ok (.getfield 9, 3) := by decide +kernel
theorem dX10_catchOf_10 : decode cX10_catchOf 10 = .ok (.iconst 5, 1) := by decide +kernel
theorem dX10_catchOf_11 : decode cX10_catchOf 11 = .ok (.iaload, 1) := by decide +kernel
theorem dX10_catchOf_12 : decode cX10_catchOf 12 = .ok (.iconst 4, 1) := by decide +kernel
theorem dX10_catchOf_13 : decode cX10_catchOf 13 = .ok (.idiv, 1) := by decide +kernel
theorem dX10_catchOf_14 : decode cX10_catchOf 14 = .ok (.iadd, 1) := by decide +kernel
theorem dX10_catchOf_15 : decode cX10_catchOf 15 = .ok (.aload_n 0, 1) := by decide +kernel
theorem dX10_catchOf_16 : decode cX10_catchOf 16 = .ok (.getfield 9, 3) := by decide +kernel
theorem dX10_catchOf_19 : decode cX10_catchOf 19 = .ok (.bipush 6, 2) := by decide +kernel
theorem dX10_catchOf_21 : decode cX10_catchOf 21 = .ok (.iaload, 1) := by decide +kernel
theorem dX10_catchOf_22 : decode cX10_catchOf 22 = .ok (.bipush 100, 2) := by decide +kernel
theorem dX10_catchOf_24 : decode cX10_catchOf 24 = .ok (.idiv, 1) := by decide +kernel
theorem dX10_catchOf_25 : decode cX10_catchOf 25 = .ok (.iadd, 1) := by decide +kernel
theorem dX10_catchOf_26 : decode cX10_catchOf 26 = .ok (.istore_n 2, 1) := by decide +kernel
theorem dX10_catchOf_27 : decode cX10_catchOf 27 = .ok (.aload_n 0, 1) := by decide +kernel
theorem dX10_catchOf_28 : decode cX10_catchOf 28 = .ok (.iload_n 1, 1) := by decide +kernel
theorem dX10_catchOf_29 : decode cX10_catchOf 29 = .ok (.iconst 0, 1) := by decide +kernel
theorem dX10_catchOf_30 : decode cX10_catchOf 30 = .ok (.invokevirtual 125, 3) := by decide +kernel
theorem dX10_catchOf_33 : decode cX10_catchOf 33 = .ok (.tableswitch 63 1 5 #[35, 35, 63, 63, 51], 35) := by decide +kernel
theorem dX10_catchOf_68 : decode cX10_catchOf 68 = .ok (.iload_n 2, 1) := by decide +kernel
theorem dX10_catchOf_69 : decode cX10_catchOf 69 = .ok (.aload_n 0, 1) := by decide +kernel
theorem dX10_catchOf_70 : decode cX10_catchOf 70 = .ok (.invokevirtual 132, 3) := by decide +kernel
theorem dX10_catchOf_73 : decode cX10_catchOf 73 = .ok (.ifCond .eq 8, 3) := by decide +kernel
theorem dX10_catchOf_76 : decode cX10_catchOf 76 = .ok (.bipush 20, 2) := by decide +kernel
theorem dX10_catchOf_78 : decode cX10_catchOf 78 = .ok (.goto 4, 3) := by decide +kernel
theorem dX10_catchOf_81 : decode cX10_catchOf 81 = .ok (.iconst 0, 1) := by decide +kernel
theorem dX10_catchOf_82 : decode cX10_catchOf 82 = .ok (.iadd, 1) := by decide +kernel
theorem dX10_catchOf_83 : decode cX10_catchOf 83 = .ok (.ireturn, 1) := by decide +kernel
theorem dX10_catchOf_84 : decode cX10_catchOf 84 = .ok (.iload_n 2, 1) := by decide +kernel
theorem dX10_catchOf_85 : decode cX10_catchOf 85 = .ok (.iconst 2, 1) := by decide +kernel
theorem dX10_catchOf_86 : decode cX10_catchOf 86 = .ok (.aload_n 0, 1) := by decide +kernel
theorem dX10_catchOf_87 : decode cX10_catchOf 87 = .ok (.invokevirtual 140, 3) := by decide +kernel
theorem dX10_catchOf_90 : decode cX10_catchOf 90 = .ok (.invokestatic 107, 3) := by decide +kernel
theorem dX10_catchOf_93 : decode cX10_catchOf 93 = .ok (.imul, 1) := by decide +kernel
theorem dX10_catchOf_94 : decode cX10_catchOf 94 = .ok (.isub, 1) := by decide +kernel
theorem dX10_catchOf_95 : decode cX10_catchOf 95 = .ok (.ireturn, 1) := by decide +kernel
theorem dX10_catchOf_96 : decode cX10_catchOf 96 = .ok (.iload_n 2, 1) := by decide +kernel
theorem dX10_catchOf_97 : decode cX10_catchOf 97 = .ok (.ireturn, 1) := by decide +kernel
theorem dX10_goingIs_0 : decode cX10_goingIs 0 = .ok (.aload_n 0, 1) := by decide +kernel
theorem dX10_goingIs_1 : decode cX10_goingIs 1 = .ok (.iload_n 1, 1) := by decide +kernel
theorem dX10_goingIs_2 : decode cX10_goingIs 2 = .ok (.bipush 15, 2) := by decide +kernel
theorem dX10_goingIs_4 : decode cX10_goingIs 4 = .ok (.invokevirtual 113, 3) := by decide +kernel
theorem dX10_goingIs_7 : decode cX10_goingIs 7 = .ok (.ifCond .ne 10, 3) := by decide +kernel
theorem dX10_goingIs_10 : decode cX10_goingIs 10 = .ok (.aload_n 0, 1) := by decide +kernel
theorem dX10_goingIs_11 : decode cX10_goingIs 11 = .ok (.ldc 91, 2) := by decide +kernel
theorem dX10_goingIs_13 : decode cX10_goingIs 13 = .ok (.invokevirtual 92, 3) := by decide +kernel
theorem dX10_goingIs_16 : decode cX10_goingIs 16 = .ok (.ireturn, 1) := by decide +kernel
theorem dX10_goingIs_17 : decode cX10_goingIs 17 = .ok (.iload_n 2, 1) := by decide +kernel
theorem dX10_goingIs_18 : decode cX10_goingIs 18 = .ok (.tableswitch 73 0 6 #[42, 42, 42, 49, 55, 61, 67], 42) := by decide +kernel
theorem dX10_goingIs_60 : decode cX10_goingIs 60 = .ok (.aload_n 0, 1) := by decide +kernel
theorem dX10_goingIs_61 : decode cX10_goingIs 61 = .ok (.iload_n 1, 1) := by decide +kernel
theorem dX10_goingIs_62 : decode cX10_goingIs 62 = .ok (.iload_n 2, 1) := by decide +kernel
theorem dX10_goingIs_63 : decode cX10_goingIs 63 = .ok (.invokevirtual 125, 3) := by decide +kernel
theorem dX10_goingIs_66 : decode cX10_goingIs 66 = .ok (.ireturn, 1) := by decide +kernel
theorem dX10_goingIs_67 : decode cX10_goingIs 67 = .ok (.aload_n 0, 1) := by decide +kernel
theorem dX10_goingIs_68 : decode cX10_goingIs 68 = .ok (.iload_n 1, 1) := by decide +kernel
theorem dX10_goingIs_69 : decode cX10_goingIs 69 = .ok (.invokevirtual 143, 3) := by decide +kernel
theorem dX10_goingIs_72 : decode cX10_goingIs 72 = .ok (.ireturn, 1) := by decide +kernel
theorem dX10_goingIs_73 : decode cX10_goingIs 73 = .ok (.aload_n 0, 1) := by decide +kernel
theorem dX10_goingIs_74 : decode cX10_goingIs 74 = .ok (.iload_n 1, 1) := by decide +kernel
theorem dX10_goingIs_75 : decode cX10_goingIs 75 = .ok (.invokevirtual 146, 3) := by decide +kernel
theorem dX10_goingIs_78 : decode cX10_goingIs 78 = .ok (.ireturn, 1) := by decide +kernel
theorem dX10_goingIs_79 : decode cX10_goingIs 79 = .ok (.aload_n 0, 1) := by decide +kernel
theorem dX10_goingIs_80 : decode cX10_goingIs 80 = .ok (.iload_n 1, 1) := by decide +kernel
theorem dX10_goingIs_81 : decode cX10_goingIs 81 = .ok (.invokevirtual 149, 3) := by decide +kernel
theorem dX10_goingIs_84 : decode cX10_goingIs 84 = .ok (.ireturn, 1) := by decide +kernel
theorem dX10_goingIs_85 : decode cX10_goingIs 85 = .ok (.aload_n 0, 1) := by decide +kernel
theorem dX10_goingIs_86 : decode cX10_goingIs 86 = .ok (.iload_n 1, 1) := by decide +kernel
theorem dX10_goingIs_87 : decode cX10_goingIs 87 = .ok (.invokevirtual 152, 3) := by decide +kernel
theorem dX10_goingIs_90 : decode cX10_goingIs 90 = .ok (.ireturn, 1) := by decide +kernel
theorem dX10_goingIs_91 : decode cX10_goingIs 91 = .ok (.aload_n 0, 1) := by decide +kernel
theorem dX10_goingIs_92 : decode cX10_goingIs 92 = .ok (.ldc 91, 2) := by decide +kernel
theorem dX10_goingIs_94 : decode cX10_goingIs 94 = .ok (.invokevirtual 92, 3) := by decide +kernel
theorem dX10_goingIs_97 : decode cX10_goingIs 97 = .ok (.ireturn, 1) := by decide +kernel
theorem dX10_above_0 : decode cX10_above 0 = .ok (.iload_n 0, 1) := by decide +kernel
theorem dX10_above_1 : decode cX10_above 1 = .ok (.ifCond .ne 7, 3) := by decide +kernel
theorem dX10_above_4 : decode cX10_above 4 = .ok (.iconst (-1), 1) := by decide +kernel
theorem dX10_above_5 : decode cX10_above 5 = .ok (.goto 27, 3) := by decide +kernel
theorem dX10_above_8 : decode cX10_above 8 = .ok (.iload_n 0, 1) := by decide +kernel
theorem dX10_above_9 : decode cX10_above 9 = .ok (.iconst 2, 1) := by decide +kernel
theorem dX10_above_10 : decode cX10_above 10 = .ok (.if_icmp .ne 7, 3) := by decide +kernel
theorem dX10_above_13 : decode cX10_above 13 = .ok (.iconst 1, 1) := by decide +kernel
theorem dX10_above_14 : decode cX10_above 14 = .ok (.goto 18, 3) := by decide +kernel
theorem dX10_above_17 : decode cX10_above 17 = .ok (.iload_n 0, 1) := by decide +kernel
theorem dX10_above_18 : decode cX10_above 18 = .ok (.iconst 4, 1) := by decide +kernel
theorem dX10_above_19 : decode cX10_above 19 = .ok (.if_icmp .eq 8, 3) := by decide +kernel
theorem dX10_above_22 : decode cX10_above 22 = .ok (.iload_n 0, 1) := by decide +kernel
theorem dX10_above_23 : decode cX10_above 23 = .ok (.iconst 5, 1) := by decide +kernel
theorem dX10_above_24 : decode cX10_above 24 = .ok (.if_icmp .ne 7, 3) := by decide +kernel
theorem dX10_above_27 : decode cX10_above 27 = .ok (.iconst 3, 1) := by decide +kernel
theorem dX10_above_28 : decode cX10_above 28 = .ok (.goto 4, 3) := by decide +kernel
theorem dX10_above_31 : decode cX10_above 31 = .ok (.iconst 0, 1) := by decide +kernel
theorem dX10_above_32 : decode cX10_above 32 = .ok (.ireturn, 1) := by decide +kernel
theorem dX10_as_0 : decode cX10_as 0 = .ok (.aload_n 0, 1) := by decide +kernel
theorem dX10_as_1 : decode cX10_as 1 = .ok (.iload_n 1, 1) := by decide +kernel
theorem dX10_as_2 : decode cX10_as 2 = .ok (.bipush 15, 2) := by decide +kernel
theorem dX10_as_4 : decode cX10_as 4 = .ok (.invokevirtual 113, 3) := by decide +kernel
theorem dX10_as_7 : decode cX10_as 7 = .ok (.ifCond .eq 13, 3) := by decide +kernel
theorem dX10_as_10 : decode cX10_as 10 = .ok (.iload_n 2, 1) := by decide +kernel
theorem dX10_as_11 : decode cX10_as 11 = .ok (.iconst 0, 1) := by decide +kernel
theorem dX10_as_12 : decode cX10_as 12 = .ok (.bipush 6, 2) := by decide +kernel
theorem dX10_as_14 : decode cX10_as 14 = .ok (.invokestatic 79, 3) := by decide +kernel
theorem dX10_as_17 : decode cX10_as 17 = .ok (.ifCond .ne 10, 3) := by decide +kernel
theorem dX10_as_20 : decode cX10_as 20 = .ok (.aload_n 0, 1) := by decide +kernel
theorem dX10_as_21 : decode cX10_as 21 = .ok (.ldc 91, 2) := by decide +kernel
theorem dX10_as_23 : decode cX10_as 23 = .ok (.invokevirtual 92, 3) := by decide +kernel
theorem dX10_as_26 : decode cX10_as 26 = .ok (.ireturn, 1) := by decide +kernel
theorem dX10_as_27 : decode cX10_as 27 = .ok (.aload_n 0, 1) := by decide +kernel
theorem dX10_as_28 : decode cX10_as 28 = .ok (.iload_n 1, 1) := by decide +kernel
theorem dX10_as_29 : decode cX10_as 29 = .ok (.iconst 0, 1) := by decide +kernel
theorem dX10_as_30 : decode cX10_as 30 = .ok (.invokevirtual 125, 3) := by decide +kernel
theorem dX10_as_33 : decode cX10_as 33 = .ok (.istore_n 3, 1) := by decide +kernel
theorem dX10_as_34 : decode cX10_as 34 = .ok (.iload_n 3, 1) := by decide +kernel
theorem dX10_as_35 : decode cX10_as 35 = .ok (.ifCond .lt 16, 3) := by decide +kernel
theorem dX10_as_38 : decode cX10_as 38 = .ok (.iload_n 3, 1) := by decide +kernel
theorem dX10_as_39 : decode cX10_as 39 = .ok (.iload_n 2, 1) := by decide +kernel
theorem dX10_as_40 : decode cX10_as 40 = .ok (.if_icmp .eq 11, 3) := by decide +kernel
theorem dX10_as_43 : decode cX10_as 43 = .ok (.iload_n 3, 1) := by decide +kernel
theorem dX10_as_44 : decode cX10_as 44 = .ok (.invokestatic 155, 3) := by decide +kernel
theorem dX10_as_47 : decode cX10_as 47 = .ok (.istore_n 3, 1) := by decide +kernel
theorem dX10_as_48 : decode cX10_as 48 = .ok (.goto (-14), 3) := by decide +kernel
theorem dX10_as_51 : decode cX10_as 51 = .ok (.iload_n 3, 1) := by decide +kernel
theorem dX10_as_52 : decode cX10_as 52 = .ok (.ifCond .ge 12, 3) := by decide +kernel
theorem dX10_as_55 : decode cX10_as 55 = .ok (.aload_n 0, 1) := by decide +kernel
theorem dX10_as_56 : decode cX10_as 56 = .ok (.ldc 158, 2) := by decide +kernel
theorem dX10_as_58 : decode cX10_as 58 = .ok (.invokevirtual 92, 3) := by decide +kernel
theorem dX10_as_61 : decode cX10_as 61 = .ok (.goto 9, 3) := by decide +kernel
theorem dX10_as_64 : decode cX10_as 64 = .ok (.aload_n 0, 1) := by decide +kernel
theorem dX10_as_65 : decode cX10_as 65 = .ok (.iload_n 1, 1) := by decide +kernel
theorem dX10_as_66 : decode cX10_as 66 = .ok (.iconst 1, 1) := by decide +kernel
theorem dX10_as_67 : decode cX10_as 67 = .ok (.invokevirtual 125, 3) := by decide +kernel
theorem dX10_as_70 : decode cX10_as 70 = .ok (.ireturn, 1) := by decide +kernel
theorem dX10_setGoing_0 : decode cX10_setGoing 0 = .ok (.aload_n 0, 1) := by decide +kernel
theorem dX10_setGoing_1 : decode cX10_setGoing 1 = .ok (.iload_n 1, 1) := by decide +kernel
theorem dX10_setGoing_2 : decode cX10_setGoing 2 = .ok (.bipush 15, 2) := by decide +kernel
theorem dX10_setGoing_4 : decode cX10_setGoing 4 = .ok (.invokevirtual 113, 3) := by decide +kernel
theorem dX10_setGoing_7 : decode cX10_setGoing 7 = .ok (.ifCond .eq 35, 3) := by decide +kernel
theorem dX10_setGoing_10 : decode cX10_setGoing 10 = .ok (.iload_n 2, 1) := by decide +kernel
theorem dX10_setGoing_11 : decode cX10_setGoing 11 = .ok (.iconst 0, 1) := by decide +kernel
theorem dX10_setGoing_12 : decode cX10_setGoing 12 = .ok (.iconst 1, 1) := by decide +kernel
theorem dX10_setGoing_13 : decode cX10_setGoing 13 = .ok (.invokestatic 79, 3) := by decide +kernel
theorem dX10_setGoing_16 : decode cX10_setGoing 16 = .ok (.ifCond .eq 26, 3) := by decide +kernel
theorem dX10_setGoing_19 : decode cX10_setGoing 19 = .ok (.iload_n 3, 1) := by decide +kernel
theorem dX10_setGoing_20 : decode cX10_setGoing 20 = .ok (.iconst 0, 1) := by decide +kernel
theorem dX10_setGoing_21 : decode cX10_setGoing 21 = .ok (.iload_n 2, 1) := by decide +kernel
theorem dX10_setGoing_22 : decode cX10_setGoing 22 = .ok (.ifCond .ne 8, 3) := by decide +kernel
theorem dX10_setGoing_25 : decode cX10_setGoing 25 = .ok (.bipush 6, 2) := by decide +kernel
theorem dX10_setGoing_27 : decode cX10_setGoing 27 = .ok (.goto 5, 3) := by decide +kernel
theorem dX10_setGoing_30 : decode cX10_setGoing 30 = .ok (.bipush 99, 2) := by decide +kernel
theorem dX10_setGoing_32 : decode cX10_setGoing 32 = .ok (.invokestatic 79, 3) := by decide +kernel
theorem dX10_setGoing_35 : decode cX10_setGoing 35 = .ok (.ifCond .eq 7, 3) := by decide +kernel
theorem dX10_setGoing_38 : decode cX10_setGoing 38 = .ok (.iconst 1, 1) := by decide +kernel
theorem dX10_setGoing_39 : decode cX10_setGoing 39 = .ok (.goto 4, 3) := by decide +kernel
theorem dX10_setGoing_42 : decode cX10_setGoing 42 = .ok (.iconst 0, 1) := by decide +kernel
theorem dX10_setGoing_43 : decode cX10_setGoing 43 = .ok (.istore 4, 2) := by decide +kernel
theorem dX10_setGoing_45 : decode cX10_setGoing 45 = .ok (.iload 4, 2) := by decide +kernel
theorem dX10_setGoing_47 : decode cX10_setGoing 47 = .ok (.ifCond .eq 19, 3) := by decide +kernel
theorem dX10_setGoing_50 : decode cX10_setGoing 50 = .ok (.aload_n 0, 1) := by decide +kernel
theorem dX10_setGoing_51 : decode cX10_setGoing 51 = .ok (.bipush 63, 2) := by decide +kernel
theorem dX10_setGoing_53 : decode cX10_setGoing 53 = .ok (.iconst 3, 1) := by decide +kernel
theorem dX10_setGoing_54 : decode cX10_setGoing 54 = .ok (.iload_n 1, 1) := by decide +kernel
theorem dX10_setGoing_55 : decode cX10_setGoing 55 = .ok (.imul, 1) := by decide +kernel
theorem dX10_setGoing_56 : decode cX10_setGoing 56 = .ok (.iadd, 1) := by decide +kernel
theorem dX10_setGoing_57 : decode cX10_setGoing 57 = .ok (.iload_n 2, 1) := by decide +kernel
theorem dX10_setGoing_58 : decode cX10_setGoing 58 = .ok (.iadd, 1) := by decide +kernel
theorem dX10_setGoing_59 : decode cX10_setGoing 59 = .ok (.iload_n 3, 1) := by decide +kernel
theorem dX10_setGoing_60 : decode cX10_setGoing 60 = .ok (.invokevirtual 88, 3) := by decide +kernel
theorem dX10_setGoing_63 : decode cX10_setGoing 63 = .ok (.goto 9, 3) := by decide +kernel
theorem dX10_setGoing_66 : decode cX10_setGoing 66 = .ok (.aload_n 0, 1) := by decide +kernel
theorem dX10_setGoing_67 : decode cX10_setGoing 67 = .ok (.ldc 91, 2) := by decide +kernel
theorem dX10_setGoing_69 : decode cX10_setGoing 69 = .ok (.invokevirtual 92, 3) := by decide +kernel
theorem dX10_setGoing_72 : decode cX10_setGoing 72 = .ok (.ireturn, 1) := by decide +kernel
theorem dX10_feed_0 : decode cX10_feed 0 = .ok (.iload_n 3, 1) := by decide +kernel
theorem dX10_feed_1 : decode cX10_feed 1 = .ok (.iconst 1, 1) := by decide +kernel
theorem dX10_feed_2 : decode cX10_feed 2 = .ok (.bipush 8, 2) := by decide +kernel
theorem dX10_feed_4 : decode cX10_feed 4 = .ok (.invokestatic 79, 3) := by decide +kernel
theorem dX10_feed_7 : decode cX10_feed 7 = .ok (.ifCond .ne 10, 3) := by decide +kernel
theorem dX10_feed_10 : decode cX10_feed 10 = .ok (.aload_n 0, 1) := by decide +kernel
theorem dX10_feed_11 : decode cX10_feed 11 = .ok (.ldc 91, 2) := by decide +kernel
theorem dX10_feed_13 : decode cX10_feed 13 = .ok (.invokevirtual 92, 3) := by decide +kernel
theorem dX10_feed_16 : decode cX10_feed 16 = .ok (.ireturn, 1) := by decide +kernel
theorem dX10_feed_17 : decode cX10_feed 17 = .ok (.aload_n 0, 1) := by decide +kernel
theorem dX10_feed_18 : decode cX10_feed 18 = .ok (.getfield 9, 3) := by decide +kernel
theorem dX10_feed_21 : decode cX10_feed 21 = .ok (.bipush 16, 2) := by decide +kernel
theorem dX10_feed_23 : decode cX10_feed 23 = .ok (.iaload, 1) := by decide +kernel
theorem dX10_feed_24 : decode cX10_feed 24 = .ok (.iload_n 3, 1) := by decide +kernel
theorem dX10_feed_25 : decode cX10_feed 25 = .ok (.iadd, 1) := by decide +kernel
theorem dX10_feed_26 : decode cX10_feed 26 = .ok (.bipush 60, 2) := by decide +kernel
theorem dX10_feed_28 : decode cX10_feed 28 = .ok (.if_icmp .le 10, 3) := by decide +kernel
theorem dX10_feed_31 : decode cX10_feed 31 = .ok (.aload_n 0, 1) := by decide +kernel
theorem dX10_feed_32 : decode cX10_feed 32 = .ok (.ldc 100, 2) := by decide +kernel
theorem dX10_feed_34 : decode cX10_feed 34 = .ok (.invokevirtual 92, 3) := by decide +kernel
theorem dX10_feed_37 : decode cX10_feed 37 = .ok (.ireturn, 1) := by decide +kernel
theorem dX10_feed_38 : decode cX10_feed 38 = .ok (.iconst 0, 1) := by decide +kernel
theorem dX10_feed_39 : decode cX10_feed 39 = .ok (.istore 4, 2) := by decide +kernel
theorem dX10_feed_41 : decode cX10_feed 41 = .ok (.iload 4, 2) := by decide +kernel
theorem dX10_feed_43 : decode cX10_feed 43 = .ok (.iload_n 3, 1) := by decide +kernel
theorem dX10_feed_44 : decode cX10_feed 44 = .ok (.if_icmp .ge 47, 3) := by decide +kernel
theorem dX10_feed_47 : decode cX10_feed 47 = .ok (.aload_n 0, 1) := by decide +kernel
theorem dX10_feed_48 : decode cX10_feed 48 = .ok (.getfield 9, 3) := by decide +kernel
theorem dX10_feed_51 : decode cX10_feed 51 = .ok (.bipush 87, 2) := by decide +kernel
theorem dX10_feed_53 : decode cX10_feed 53 = .ok (.aload_n 0, 1) := by decide +kernel
theorem dX10_feed_54 : decode cX10_feed 54 = .ok (.getfield 9, 3) := by decide +kernel
theorem dX10_feed_57 : decode cX10_feed 57 = .ok (.bipush 16, 2) := by decide +kernel
theorem dX10_feed_59 : decode cX10_feed 59 = .ok (.iaload, 1) := by decide +kernel
theorem dX10_feed_60 : decode cX10_feed 60 = .ok (.iadd, 1) := by decide +kernel
theorem dX10_feed_61 : decode cX10_feed 61 = .ok (.lload_n 1, 1) := by decide +kernel
theorem dX10_feed_62 : decode cX10_feed 62 = .ok (.bipush 8, 2) := by decide +kernel
theorem dX10_feed_64 : decode cX10_feed 64 = .ok (.iload 4, 2) := by decide +kernel
theorem dX10_feed_66 : decode cX10_feed 66 = .ok (.imul, 1) := by decide +kernel
theorem dX10_feed_67 : decode cX10_feed 67 = .ok (.lshr, 1) := by decide +kernel
theorem dX10_feed_68 : decode cX10_feed 68 = .ok (.ldc2_w 159, 3) := by decide +kernel
theorem dX10_feed_71 : decode cX10_feed 71 = .ok (.land, 1) := by decide +kernel
theorem dX10_feed_72 : decode cX10_feed 72 = .ok (.l2i, 1) := by decide +kernel
theorem dX10_feed_73 : decode cX10_feed 73 = .ok (.iastore, 1) := by decide +kernel
theorem dX10_feed_74 : decode cX10_feed 74 = .ok (.aload_n 0, 1) := by decide +kernel
theorem dX10_feed_75 : decode cX10_feed 75 = .ok (.getfield 9, 3) := by decide +kernel
theorem dX10_feed_78 : decode cX10_feed 78 = .ok (.bipush 16, 2) := by decide +kernel
theorem dX10_feed_80 : decode cX10_feed 80 = .ok (.dup2, 1) := by decide +kernel
theorem dX10_feed_81 : decode cX10_feed 81 = .ok (.iaload, 1) := by decide +kernel
theorem dX10_feed_82 : decode cX10_feed 82 = .ok (.iconst 1, 1) := by decide +kernel
theorem dX10_feed_83 : decode cX10_feed 83 = .ok (.iadd, 1) := by decide +kernel
theorem dX10_feed_84 : decode cX10_feed 84 = .ok (.iastore, 1) := by decide +kernel
theorem dX10_feed_85 : decode cX10_feed 85 = .ok (.iinc 4 1, 3) := by decide +kernel
theorem dX10_feed_88 : decode cX10_feed 88 = .ok (.goto (-47), 3) := by decide +kernel
theorem dX10_feed_91 : decode cX10_feed 91 = .ok (.aload_n 0, 1) := by decide +kernel
theorem dX10_feed_92 : decode cX10_feed 92 = .ok (.getfield 9, 3) := by decide +kernel
theorem dX10_feed_95 : decode cX10_feed 95 = .ok (.bipush 16, 2) := by decide +kernel
theorem dX10_feed_97 : decode cX10_feed 97 = .ok (.iaload, 1) := by decide +kernel
theorem dX10_feed_98 : decode cX10_feed 98 = .ok (.ireturn, 1) := by decide +kernel
theorem dX10_here_0 : decode cX10_here 0 = .ok (.aload_n 0, 1) := by decide +kernel
theorem dX10_here_1 : decode cX10_here 1 = .ok (.getfield 161, 3) := by decide +kernel
theorem dX10_here_4 : decode cX10_here 4 = .ok (.ifCond .ne 32, 3) := by decide +kernel
theorem dX10_here_7 : decode cX10_here 7 = .ok (.aload_n 0, 1) := by decide +kernel
theorem dX10_here_8 : decode cX10_here 8 = .ok (.getfield 165, 3) := by decide +kernel
theorem dX10_here_11 : decode cX10_here 11 = .ok (.aload_n 0, 1) := by decide +kernel
theorem dX10_here_12 : decode cX10_here 12 = .ok (.getfield 9, 3) := by decide +kernel
theorem dX10_here_15 : decode cX10_here 15 = .ok (.bipush 16, 2) := by decide +kernel
theorem dX10_here_17 : decode cX10_here 17 = .ok (.iaload, 1) := by decide +kernel
theorem dX10_here_18 : decode cX10_here 18 = .ok (.if_icmp .ge 18, 3) := by decide +kernel
theorem dX10_here_21 : decode cX10_here 21 = .ok (.aload_n 0, 1) := by decide +kernel
theorem dX10_here_22 : decode cX10_here 22 = .ok (.getfield 9, 3) := by decide +kernel
theorem dX10_here_25 : decode cX10_here 25 = .ok (.bipush 87, 2) := by decide +kernel
theorem dX10_here_27 : decode cX10_here 27 = .ok (.aload_n 0, 1) := by decide +kernel
theorem dX10_here_28 : decode cX10_here 28 = .ok (.getfield 165, 3) := by decide +kernel
theorem dX10_here_31 : decode cX10_here 31 = .ok (.iadd, 1) := by decide +kernel
theorem dX10_here_32 : decode cX10_here 32 = .ok (.iaload, 1) := by decide +kernel
theorem dX10_here_33 : decode cX10_here 33 = .ok (.goto 4, 3) := by decide +kernel
theorem dX10_here_36 : decode cX10_here 36 = .ok (.iconst (-1), 1) := by decide +kernel
theorem dX10_here_37 : decode cX10_here 37 = .ok (.ireturn, 1) := by decide +kernel
theorem dX10_takes_0 : decode cX10_takes 0 = .ok (.aload_n 0, 1) := by decide +kernel
theorem dX10_takes_1 : decode cX10_takes 1 = .ok (.invokevirtual 169, 3) := by decide +kernel
theorem dX10_takes_4 : decode cX10_takes 4 = .ok (.iload_n 1, 1) := by decide +kernel
theorem dX10_takes_5 : decode cX10_takes 5 = .ok (.if_icmp .ne 7, 3) := by decide +kernel
theorem dX10_takes_8 : decode cX10_takes 8 = .ok (.iconst 1, 1) := by decide +kernel
theorem dX10_takes_9 : decode cX10_takes 9 = .ok (.goto 4, 3) := by decide +kernel
theorem dX10_takes_12 : decode cX10_takes 12 = .ok (.iconst 0, 1) := by decide +kernel
theorem dX10_takes_13 : decode cX10_takes 13 = .ok (.istore_n 2, 1) := by decide +kernel
theorem dX10_takes_14 : decode cX10_takes 14 = .ok (.aload_n 0, 1) := by decide +kernel
theorem dX10_takes_15 : decode cX10_takes 15 = .ok (.dup, 1) := by decide +kernel
theorem dX10_takes_16 : decode cX10_takes 16 = .ok (.getfield 165, 3) := by decide +kernel
theorem dX10_takes_19 : decode cX10_takes 19 = .ok (.iload_n 2, 1) := by decide +kernel
theorem dX10_takes_20 : decode cX10_takes 20 = .ok (.ifCond .eq 7, 3) := by decide +kernel
theorem dX10_takes_23 : decode cX10_takes 23 = .ok (.iconst 1, 1) := by decide +kernel
theorem dX10_takes_24 : decode cX10_takes 24 = .ok (.goto 4, 3) := by decide +kernel
theorem dX10_takes_27 : decode cX10_takes 27 = .ok (.iconst 0, 1) := by decide +kernel
theorem dX10_takes_28 : decode cX10_takes 28 = .ok (.iadd, 1) := by decide +kernel
theorem dX10_takes_29 : decode cX10_takes 29 = .ok (.putfield 165, 3) := by decide +kernel
theorem dX10_takes_32 : decode cX10_takes 32 = .ok (.iload_n 2, 1) := by decide +kernel
theorem dX10_takes_33 : decode cX10_takes 33 = .ok (.ireturn, 1) := by decide +kernel
theorem dX10_codes_0 : decode cX10_codes 0 = .ok (.aload_n 0, 1) := by decide +kernel
theorem dX10_codes_1 : decode cX10_codes 1 = .ok (.getfield 161, 3) := by decide +kernel
theorem dX10_codes_4 : decode cX10_codes 4 = .ok (.ifCond .ne 23, 3) := by decide +kernel
theorem dX10_codes_7 : decode cX10_codes 7 = .ok (.aload_n 0, 1) := by decide +kernel
theorem dX10_codes_8 : decode cX10_codes 8 = .ok (.getfield 38, 3) := by decide +kernel
theorem dX10_codes_11 : decode cX10_codes 11 = .ok (.aload_n 0, 1) := by decide +kernel
theorem dX10_codes_12 : decode cX10_codes 12 = .ok (.getfield 172, 3) := by decide +kernel
theorem dX10_codes_15 : decode cX10_codes 15 = .ok (.iload_n 1, 1) := by decide +kernel
theorem dX10_codes_16 : decode cX10_codes 16 = .ok (.iastore, 1) := by decide +kernel
theorem dX10_codes_17 : decode cX10_codes 17 = .ok (.aload_n 0, 1) := by decide +kernel
theorem dX10_codes_18 : decode cX10_codes 18 = .ok (.dup, 1) := by decide +kernel
theorem dX10_codes_19 : decode cX10_codes 19 = .ok (.getfield 172, 3) := by decide +kernel
theorem dX10_codes_22 : decode cX10_codes 22 = .ok (.iconst 1, 1) := by decide +kernel
theorem dX10_codes_23 : decode cX10_codes 23 = .ok (.iadd, 1) := by decide +kernel
theorem dX10_codes_24 : decode cX10_codes 24 = .ok (.putfield 172, 3) := by decide +kernel
theorem dX10_codes_27 : decode cX10_codes 27 = .ok (.return_, 1) := by decide +kernel
theorem dX10_either_0 : decode cX10_either 0 = .ok (.aload_n 0, 1) := by decide +kernel
theorem dX10_either_1 : decode cX10_either 1 = .ok (.invokevirtual 175, 3) := by decide +kernel
theorem dX10_either_4 : decode cX10_either 4 = .ok (.aload_n 0, 1) := by decide +kernel
theorem dX10_either_5 : decode cX10_either 5 = .ok (.bipush 124, 2) := by decide +kernel
theorem dX10_either_7 : decode cX10_either 7 = .ok (.invokevirtual 178, 3) := by decide +kernel
theorem dX10_either_10 : decode cX10_either 10 = .ok (.ifCond .eq 17, 3) := by decide +kernel
theorem dX10_either_13 : decode cX10_either 13 = .ok (.aload_n 0, 1) := by decide +kernel
theorem dX10_either_14 : decode cX10_either 14 = .ok (.invokevirtual 175, 3) := by decide +kernel
theorem dX10_either_17 : decode cX10_either 17 = .ok (.aload_n 0, 1) := by decide +kernel
theorem dX10_either_18 : decode cX10_either 18 = .ok (.sipush 20000, 3) := by decide +kernel
theorem dX10_either_21 : decode cX10_either 21 = .ok (.invokevirtual 181, 3) := by decide +kernel
theorem dX10_either_24 : decode cX10_either 24 = .ok (.goto (-20), 3) := by decide +kernel
theorem dX10_either_27 : decode cX10_either 27 = .ok (.return_, 1) := by decide +kernel
theorem dX10_both_0 : decode cX10_both 0 = .ok (.aload_n 0, 1) := by decide +kernel
theorem dX10_both_1 : decode cX10_both 1 = .ok (.invokevirtual 184, 3) := by decide +kernel
theorem dX10_both_4 : decode cX10_both 4 = .ok (.aload_n 0, 1) := by decide +kernel
theorem dX10_both_5 : decode cX10_both 5 = .ok (.bipush 38, 2) := by decide +kernel
theorem dX10_both_7 : decode cX10_both 7 = .ok (.invokevirtual 178, 3) := by decide +kernel
theorem dX10_both_10 : decode cX10_both 10 = .ok (.ifCond .eq 17, 3) := by decide +kernel
theorem dX10_both_13 : decode cX10_both 13 = .ok (.aload_n 0, 1) := by decide +kernel
theorem dX10_both_14 : decode cX10_both 14 = .ok (.invokevirtual 184, 3) := by decide +kernel
theorem dX10_both_17 : decode cX10_both 17 = .ok (.aload_n 0, 1) := by decide +kernel
theorem dX10_both_18 : decode cX10_both 18 = .ok (.sipush 20001, 3) := by decide +kernel
theorem dX10_both_21 : decode cX10_both 21 = .ok (.invokevirtual 181, 3) := by decide +kernel
theorem dX10_both_24 : decode cX10_both 24 = .ok (.goto (-20), 3) := by decide +kernel
theorem dX10_both_27 : decode cX10_both 27 = .ok (.return_, 1) := by decide +kernel
theorem dX10_compared_0 : decode cX10_compared 0 = .ok (.aload_n 0, 1) := by decide +kernel
theorem dX10_compared_1 : decode cX10_compared 1 = .ok (.invokevirtual 187, 3) := by decide +kernel
theorem dX10_compared_4 : decode cX10_compared 4 = .ok (.aload_n 0, 1) := by decide +kernel
theorem dX10_compared_5 : decode cX10_compared 5 = .ok (.bipush 60, 2) := by decide +kernel
theorem dX10_compared_7 : decode cX10_compared 7 = .ok (.invokevirtual 178, 3) := by decide +kernel
theorem dX10_compared_10 : decode cX10_compared 10 = .ok (.ifCond .eq 9, 3) := by decide +kernel
theorem dX10_compared_13 : decode cX10_compared 13 = .ok (.sipush 20002, 3) := by decide +kernel
theorem dX10_compared_16 : decode cX10_compared 16 = .ok (.goto 34, 3) := by decide +kernel
theorem dX10_compared_19 : decode cX10_compared 19 = .ok (.aload_n 0, 1) := by decide +kernel
theorem dX10_compared_20 : decode cX10_compared 20 = .ok (.bipush 61, 2) := by decide +kernel
theorem dX10_compared_22 : decode cX10_compared 22 = .ok (.invokevirtual 178, 3) := by decide +kernel
theorem dX10_compared_25 : decode cX10_compared 25 = .ok (.ifCond .eq 9, 3) := by decide +kernel
theorem dX10_compared_28 : decode cX10_compared 28 = .ok (.sipush 20003, 3) := by decide +kernel
theorem dX10_compared_31 : decode cX10_compared 31 = .ok (.goto 19, 3) := by decide +kernel
theorem dX10_compared_34 : decode cX10_compared 34 = .ok (.aload_n 0, 1) := by decide +kernel
theorem dX10_compared_35 : decode cX10_compared 35 = .ok (.bipush 62, 2) := by decide +kernel
theorem dX10_compared_37 : decode cX10_compared 37 = .ok (.invokevirtual 178, 3) := by decide +kernel
theorem dX10_compared_40 : decode cX10_compared 40 = .ok (.ifCond .eq 9, 3) := by decide +kernel
theorem dX10_compared_43 : decode cX10_compared 43 = .ok (.sipush 20004, 3) := by decide +kernel
theorem dX10_compared_46 : decode cX10_compared 46 = .ok (.goto 4, 3) := by decide +kernel
theorem dX10_compared_49 : decode cX10_compared 49 = .ok (.iconst 0, 1) := by decide +kernel
theorem dX10_compared_50 : decode cX10_compared 50 = .ok (.istore_n 1, 1) := by decide +kernel
theorem dX10_compared_51 : decode cX10_compared 51 = .ok (.iload_n 1, 1) := by decide +kernel
theorem dX10_compared_52 : decode cX10_compared 52 = .ok (.ifCond .le 12, 3) := by decide +kernel
theorem dX10_compared_55 : decode cX10_compared 55 = .ok (.aload_n 0, 1) := by decide +kernel
theorem dX10_compared_56 : decode cX10_compared 56 = .ok (.invokevirtual 187, 3) := by decide +kernel
theorem dX10_compared_59 : decode cX10_compared 59 = .ok (.aload_n 0, 1) := by decide +kernel
theorem dX10_compared_60 : decode cX10_compared 60 = .ok (.iload_n 1, 1) := by decide +kernel
theorem dX10_compared_61 : decode cX10_compared 61 = .ok (.invokevirtual 181, 3) := by decide +kernel
theorem dX10_compared_64 : decode cX10_compared 64 = .ok (.return_, 1) := by decide +kernel
theorem dX10_sum_0 : decode cX10_sum 0 = .ok (.aload_n 0, 1) := by decide +kernel
theorem dX10_sum_1 : decode cX10_sum 1 = .ok (.invokevirtual 190, 3) := by decide +kernel
theorem dX10_sum_4 : decode cX10_sum 4 = .ok (.aload_n 0, 1) := by decide +kernel
theorem dX10_sum_5 : decode cX10_sum 5 = .ok (.bipush 43, 2) := by decide +kernel
theorem dX10_sum_7 : decode cX10_sum 7 = .ok (.invokevirtual 178, 3) := by decide +kernel
theorem dX10_sum_10 : decode cX10_sum 10 = .ok (.ifCond .eq 9, 3) := by decide +kernel
theorem dX10_sum_13 : decode cX10_sum 13 = .ok (.sipush 20005, 3) := by decide +kernel
theorem dX10_sum_16 : decode cX10_sum 16 = .ok (.goto 19, 3) := by decide +kernel
theorem dX10_sum_19 : decode cX10_sum 19 = .ok (.aload_n 0, 1) := by decide +kernel
theorem dX10_sum_20 : decode cX10_sum 20 = .ok (.bipush 45, 2) := by decide +kernel
theorem dX10_sum_22 : decode cX10_sum 22 = .ok (.invokevirtual 178, 3) := by decide +kernel
theorem dX10_sum_25 : decode cX10_sum 25 = .ok (.ifCond .eq 9, 3) := by decide +kernel
theorem dX10_sum_28 : decode cX10_sum 28 = .ok (.sipush 20006, 3) := by decide +kernel
theorem dX10_sum_31 : decode cX10_sum 31 = .ok (.goto 4, 3) := by decide +kernel
theorem dX10_sum_34 : decode cX10_sum 34 = .ok (.iconst 0, 1) := by decide +kernel
theorem dX10_sum_35 : decode cX10_sum 35 = .ok (.istore_n 1, 1) := by decide +kernel
theorem dX10_sum_36 : decode cX10_sum 36 = .ok (.iload_n 1, 1) := by decide +kernel
theorem dX10_sum_37 : decode cX10_sum 37 = .ok (.ifCond .le 47, 3) := by decide +kernel
theorem dX10_sum_40 : decode cX10_sum 40 = .ok (.aload_n 0, 1) := by decide +kernel
theorem dX10_sum_41 : decode cX10_sum 41 = .ok (.invokevirtual 190, 3) := by decide +kernel
theorem dX10_sum_44 : decode cX10_sum 44 = .ok (.aload_n 0, 1) := by decide +kernel
theorem dX10_sum_45 : decode cX10_sum 45 = .ok (.iload_n 1, 1) := by decide +kernel
theorem dX10_sum_46 : decode cX10_sum 46 = .ok (.invokevirtual 181, 3) := by decide +kernel
theorem dX10_sum_49 : decode cX10_sum 49 = .ok (.aload_n 0, 1) := by decide +kernel
theorem dX10_sum_50 : decode cX10_sum 50 = .ok (.bipush 43, 2) := by decide +kernel
theorem dX10_sum_52 : decode cX10_sum 52 = .ok (.invokevirtual 178, 3) := by decide +kernel
theorem dX10_sum_55 : decode cX10_sum 55 = .ok (.ifCond .eq 9, 3) := by decide +kernel
theorem dX10_sum_58 : decode cX10_sum 58 = .ok (.sipush 20005, 3) := by decide +kernel
theorem dX10_sum_61 : decode cX10_sum 61 = .ok (.goto 19, 3) := by decide +kernel
theorem dX10_sum_64 : decode cX10_sum 64 = .ok (.aload_n 0, 1) := by decide +kernel
theorem dX10_sum_65 : decode cX10_sum 65 = .ok (.bipush 45, 2) := by decide +kernel
theorem dX10_sum_67 : decode cX10_sum 67 = .ok (.invokevirtual 178, 3) := by decide +kernel
theorem dX10_sum_70 : decode cX10_sum 70 = .ok (.ifCond .eq 9, 3) := by decide +kernel
theorem dX10_sum_73 : decode cX10_sum 73 = .ok (.sipush 20006, 3) := by decide +kernel
theorem dX10_sum_76 : decode cX10_sum 76 = .ok (.goto 4, 3) := by decide +kernel
theorem dX10_sum_79 : decode cX10_sum 79 = .ok (.iconst 0, 1) := by decide +kernel
theorem dX10_sum_80 : decode cX10_sum 80 = .ok (.istore_n 1, 1) := by decide +kernel
theorem dX10_sum_81 : decode cX10_sum 81 = .ok (.goto (-45), 3) := by decide +kernel
theorem dX10_sum_84 : decode cX10_sum 84 = .ok (.return_, 1) := by decide +kernel
theorem dX10_product_0 : decode cX10_product 0 = .ok (.aload_n 0, 1) := by decide +kernel
theorem dX10_product_1 : decode cX10_product 1 = .ok (.invokevirtual 193, 3) := by decide +kernel
theorem dX10_product_4 : decode cX10_product 4 = .ok (.aload_n 0, 1) := by decide +kernel
theorem dX10_product_5 : decode cX10_product 5 = .ok (.bipush 42, 2) := by decide +kernel
theorem dX10_product_7 : decode cX10_product 7 = .ok (.invokevirtual 178, 3) := by decide +kernel
theorem dX10_product_10 : decode cX10_product 10 = .ok (.ifCond .eq 9, 3) := by decide +kernel
theorem dX10_product_13 : decode cX10_product 13 = .ok (.sipush 20007, 3) := by decide +kernel
theorem dX10_product_16 : decode cX10_product 16 = .ok (.goto 34, 3) := by decide +kernel
theorem dX10_product_19 : decode cX10_product 19 = .ok (.aload_n 0, 1) := by decide +kernel
theorem dX10_product_20 : decode cX10_product 20 = .ok (.bipush 47, 2) := by decide +kernel
theorem dX10_product_22 : decode cX10_product 22 = .ok (.invokevirtual 178, 3) := by decide +kernel
theorem dX10_product_25 : decode cX10_product 25 = .ok (.ifCond .eq 9, 3) := by decide +kernel
theorem dX10_product_28 : decode cX10_product 28 = .ok (.sipush 20008, 3) := by decide +kernel
theorem dX10_product_31 : decode cX10_product 31 = .ok (.goto 19, 3) := by decide +kernel
theorem dX10_product_34 : decode cX10_product 34 = .ok (.aload_n 0, 1) := by decide +kernel
theorem dX10_product_35 : decode cX10_product 35 = .ok (.bipush 37, 2) := by decide +kernel
theorem dX10_product_37 : decode cX10_product 37 = .ok (.invokevirtual 178, 3) := by decide +kernel
theorem dX10_product_40 : decode cX10_product 40 = .ok (.ifCond .eq 9, 3) := by decide +kernel
theorem dX10_product_43 : decode cX10_product 43 = .ok (.sipush 20009, 3) := by decide +kernel
theorem dX10_product_46 : decode cX10_product 46 = .ok (.goto 4, 3) := by decide +kernel
theorem dX10_product_49 : decode cX10_product 49 = .ok (.iconst 0, 1) := by decide +kernel
theorem dX10_product_50 : decode cX10_product 50 = .ok (.istore_n 1, 1) := by decide +kernel
theorem dX10_product_51 : decode cX10_product 51 = .ok (.iload_n 1, 1) := by decide +kernel
theorem dX10_product_52 : decode cX10_product 52 = .ok (.ifCond .le 62, 3) := by decide +kernel
theorem dX10_product_55 : decode cX10_product 55 = .ok (.aload_n 0, 1) := by decide +kernel
theorem dX10_product_56 : decode cX10_product 56 = .ok (.invokevirtual 193, 3) := by decide +kernel
theorem dX10_product_59 : decode cX10_product 59 = .ok (.aload_n 0, 1) := by decide +kernel
theorem dX10_product_60 : decode cX10_product 60 = .ok (.iload_n 1, 1) := by decide +kernel
theorem dX10_product_61 : decode cX10_product 61 = .ok (.invokevirtual 181, 3) := by decide +kernel
theorem dX10_product_64 : decode cX10_product 64 = .ok (.aload_n 0, 1) := by decide +kernel
theorem dX10_product_65 : decode cX10_product 65 = .ok (.bipush 42, 2) := by decide +kernel
theorem dX10_product_67 : decode cX10_product 67 = .ok (.invokevirtual 178, 3) := by decide +kernel
theorem dX10_product_70 : decode cX10_product 70 = .ok (.ifCond .eq 9, 3) := by decide +kernel
theorem dX10_product_73 : decode cX10_product 73 = .ok (.sipush 20007, 3) := by decide +kernel
theorem dX10_product_76 : decode cX10_product 76 = .ok (.goto 34, 3) := by decide +kernel
theorem dX10_product_79 : decode cX10_product 79 = .ok (.aload_n 0, 1) := by decide +kernel
theorem dX10_product_80 : decode cX10_product 80 = .ok (.bipush 47, 2) := by decide +kernel
theorem dX10_product_82 : decode cX10_product 82 = .ok (.invokevirtual 178, 3) := by decide +kernel
theorem dX10_product_85 : decode cX10_product 85 = .ok (.ifCond .eq 9, 3) := by decide +kernel
theorem dX10_product_88 : decode cX10_product 88 = .ok (.sipush 20008, 3) := by decide +kernel
theorem dX10_product_91 : decode cX10_product 91 = .ok (.goto 19, 3) := by decide +kernel
theorem dX10_product_94 : decode cX10_product 94 = .ok (.aload_n 0, 1) := by decide +kernel
theorem dX10_product_95 : decode cX10_product 95 = .ok (.bipush 37, 2) := by decide +kernel
theorem dX10_product_97 : decode cX10_product 97 = .ok (.invokevirtual 178, 3) := by decide +kernel
theorem dX10_product_100 : decode cX10_product 100 = .ok (.ifCond .eq 9, 3) := by decide +kernel
theorem dX10_product_103 : decode cX10_product 103 = .ok (.sipush 20009, 3) := by decide +kernel
theorem dX10_product_106 : decode cX10_product 106 = .ok (.goto 4, 3) := by decide +kernel
theorem dX10_product_109 : decode cX10_product 109 = .ok (.iconst 0, 1) := by decide +kernel
theorem dX10_product_110 : decode cX10_product 110 = .ok (.istore_n 1, 1) := by decide +kernel
theorem dX10_product_111 : decode cX10_product 111 = .ok (.goto (-60), 3) := by decide +kernel
theorem dX10_product_114 : decode cX10_product 114 = .ok (.return_, 1) := by decide +kernel
theorem dX10_nameOf_0 : decode cX10_nameOf 0 = .ok (.iconst (-1), 1) := by decide +kernel
theorem dX10_nameOf_1 : decode cX10_nameOf 1 = .ok (.istore_n 2, 1) := by decide +kernel
theorem dX10_nameOf_2 : decode cX10_nameOf 2 = .ok (.iconst 0, 1) := by decide +kernel
theorem dX10_nameOf_3 : decode cX10_nameOf 3 = .ok (.istore_n 3, 1) := by decide +kernel
theorem dX10_nameOf_4 : decode cX10_nameOf 4 = .ok (.iload_n 3, 1) := by decide +kernel
theorem dX10_nameOf_5 : decode cX10_nameOf 5 = .ok (.aload_n 0, 1) := by decide +kernel
theorem dX10_nameOf_6 : decode cX10_nameOf 6 = .ok (.getfield 34, 3) := by decide +kernel
theorem dX10_nameOf_9 : decode cX10_nameOf 9 = .ok (.aload_n 0, 1) := by decide +kernel
theorem dX10_nameOf_10 : decode cX10_nameOf 10 = .ok (.getfield 196, 3) := by decide +kernel
theorem dX10_nameOf_13 : decode cX10_nameOf 13 = .ok (.aaload, 1) := by decide +kernel
theorem dX10_nameOf_14 : decode cX10_nameOf 14 = .ok (.invokevirtual 199, 3) := by decide +kernel
theorem dX10_nameOf_17 : decode cX10_nameOf 17 = .ok (.if_icmp .ge 32, 3) := by decide +kernel
theorem dX10_nameOf_20 : decode cX10_nameOf 20 = .ok (.aload_n 0, 1) := by decide +kernel
theorem dX10_nameOf_21 : decode cX10_nameOf 21 = .ok (.getfield 34, 3) := by decide +kernel
theorem dX10_nameOf_24 : decode cX10_nameOf 24 = .ok (.aload_n 0, 1) := by decide +kernel
theorem dX10_nameOf_25 : decode cX10_nameOf 25 = .ok (.getfield 196, 3) := by decide +kernel
theorem dX10_nameOf_28 : decode cX10_nameOf 28 = .ok (.aaload, 1) := by decide +kernel
theorem dX10_nameOf_29 : decode cX10_nameOf 29 = .ok (.iload_n 3, 1) := by decide +kernel
theorem dX10_nameOf_30 : decode cX10_nameOf 30 = .ok (.invokevirtual 202, 3) := by decide +kernel
theorem dX10_nameOf_33 : decode cX10_nameOf 33 = .ok (.iload_n 1, 1) := by decide +kernel
theorem dX10_nameOf_34 : decode cX10_nameOf 34 = .ok (.if_icmp .ne 7, 3) := by decide +kernel
theorem dX10_nameOf_37 : decode cX10_nameOf 37 = .ok (.iload_n 3, 1) := by decide +kernel
theorem dX10_nameOf_38 : decode cX10_nameOf 38 = .ok (.goto 4, 3) := by decide +kernel
theorem dX10_nameOf_41 : decode cX10_nameOf 41 = .ok (.iload_n 2, 1) := by decide +kernel
theorem dX10_nameOf_42 : decode cX10_nameOf 42 = .ok (.istore_n 2, 1) := by decide +kernel
theorem dX10_nameOf_43 : decode cX10_nameOf 43 = .ok (.iinc 3 1, 3) := by decide +kernel
theorem dX10_nameOf_46 : decode cX10_nameOf 46 = .ok (.goto (-42), 3) := by decide +kernel
theorem dX10_nameOf_49 : decode cX10_nameOf 49 = .ok (.iload_n 2, 1) := by decide +kernel
theorem dX10_nameOf_50 : decode cX10_nameOf 50 = .ok (.ireturn, 1) := by decide +kernel
theorem dX10_one_0 : decode cX10_one 0 = .ok (.aload_n 0, 1) := by decide +kernel
theorem dX10_one_1 : decode cX10_one 1 = .ok (.invokevirtual 169, 3) := by decide +kernel
theorem dX10_one_4 : decode cX10_one 4 = .ok (.istore_n 1, 1) := by decide +kernel
theorem dX10_one_5 : decode cX10_one 5 = .ok (.iload_n 1, 1) := by decide +kernel
theorem dX10_one_6 : decode cX10_one 6 = .ok (.bipush 33, 2) := by decide +kernel
theorem dX10_one_8 : decode cX10_one 8 = .ok (.if_icmp .eq 9, 3) := by decide +kernel
theorem dX10_one_11 : decode cX10_one 11 = .ok (.iload_n 1, 1) := by decide +kernel
theorem dX10_one_12 : decode cX10_one 12 = .ok (.bipush 40, 2) := by decide +kernel
theorem dX10_one_14 : decode cX10_one 14 = .ok (.if_icmp .ne 102, 3) := by decide +kernel
theorem dX10_one_17 : decode cX10_one 17 = .ok (.aload_n 0, 1) := by decide +kernel
theorem dX10_one_18 : decode cX10_one 18 = .ok (.aload_n 0, 1) := by decide +kernel
theorem dX10_one_19 : decode cX10_one 19 = .ok (.getfield 206, 3) := by decide +kernel
theorem dX10_one_22 : decode cX10_one 22 = .ok (.iconst 5, 1) := by decide +kernel
theorem dX10_one_23 : decode cX10_one 23 = .ok (.if_icmp .ne 7, 3) := by decide +kernel
theorem dX10_one_26 : decode cX10_one 26 = .ok (.iconst 1, 1) := by decide +kernel
theorem dX10_one_27 : decode cX10_one 27 = .ok (.goto 4, 3) := by decide +kernel
theorem dX10_one_30 : decode cX10_one 30 = .ok (.iconst 0, 1) := by decide +kernel
theorem dX10_one_31 : decode cX10_one 31 = .ok (.putfield 161, 3) := by decide +kernel
theorem dX10_one_34 : decode cX10_one 34 = .ok (.aload_n 0, 1) := by decide +kernel
theorem dX10_one_35 : decode cX10_one 35 = .ok (.getfield 161, 3) := by decide +kernel
theorem dX10_one_38 : decode cX10_one 38 = .ok (.ifCond .ne 209, 3) := by decide +kernel
theorem dX10_one_41 : decode cX10_one 41 = .ok (.aload_n 0, 1) := by decide +kernel
theorem dX10_one_42 : decode cX10_one 42 = .ok (.dup, 1) := by decide +kernel
theorem dX10_one_43 : decode cX10_one 43 = .ok (.getfield 206, 3) := by decide +kernel
theorem dX10_one_46 : decode cX10_one 46 = .ok (.iconst 1, 1) := by decide +kernel
theorem dX10_one_47 : decode cX10_one 47 = .ok (.iadd, 1) := by decide +kernel
theorem dX10_one_48 : decode cX10_one 48 = .ok (.putfield 206, 3) := by decide +kernel
theorem dX10_one_51 : decode cX10_one 51 = .ok (.aload_n 0, 1) := by decide +kernel
theorem dX10_one_52 : decode cX10_one 52 = .ok (.dup, 1) := by decide +kernel
theorem dX10_one_53 : decode cX10_one 53 = .ok (.getfield 165, 3) := by decide +kernel
theorem dX10_one_56 : decode cX10_one 56 = .ok (.iconst 1, 1) := by decide +kernel
theorem dX10_one_57 : decode cX10_one 57 = .ok (.iadd, 1) := by decide +kernel
theorem dX10_one_58 : decode cX10_one 58 = .ok (.putfield 165, 3) := by decide +kernel
theorem dX10_one_61 : decode cX10_one 61 = .ok (.iload_n 1, 1) := by decide +kernel
theorem dX10_one_62 : decode cX10_one 62 = .ok (.bipush 33, 2) := by decide +kernel
theorem dX10_one_64 : decode cX10_one 64 = .ok (.if_icmp .ne 17, 3) := by decide +kernel
theorem dX10_one_67 : decode cX10_one 67 = .ok (.aload_n 0, 1) := by decide +kernel
theorem dX10_one_68 : decode cX10_one 68 = .ok (.invokevirtual 193, 3) := by decide +kernel
theorem dX10_one_71 : decode cX10_one 71 = .ok (.aload_n 0, 1) := by decide +kernel
theorem dX10_one_72 : decode cX10_one 72 = .ok (.sipush 20010, 3) := by decide +kernel
theorem dX10_one_75 : decode cX10_one 75 = .ok (.invokevirtual 181, 3) := by decide +kernel
theorem dX10_one_78 : decode cX10_one 78 = .ok (.goto 25, 3) := by decide +kernel
theorem dX10_one_81 : decode cX10_one 81 = .ok (.aload_n 0, 1) := by decide +kernel
theorem dX10_one_82 : decode cX10_one 82 = .ok (.invokevirtual 209, 3) := by decide +kernel
theorem dX10_one_85 : decode cX10_one 85 = .ok (.aload_n 0, 1) := by decide +kernel
theorem dX10_one_86 : decode cX10_one 86 = .ok (.aload_n 0, 1) := by decide +kernel
theorem dX10_one_87 : decode cX10_one 87 = .ok (.bipush 41, 2) := by decide +kernel
theorem dX10_one_89 : decode cX10_one 89 = .ok (.invokevirtual 178, 3) := by decide +kernel
theorem dX10_one_92 : decode cX10_one 92 = .ok (.ifCond .ne 7, 3) := by decide +kernel
theorem dX10_one_95 : decode cX10_one 95 = .ok (.iconst 1, 1) := by decide +kernel
theorem dX10_one_96 : decode cX10_one 96 = .ok (.goto 4, 3) := by decide +kernel
theorem dX10_one_99 : decode cX10_one 99 = .ok (.iconst 0, 1) := by decide +kernel
theorem dX10_one_100 : decode cX10_one 100 = .ok (.putfield 161, 3) := by decide +kernel
theorem dX10_one_103 : decode cX10_one 103 = .ok (.aload_n 0, 1) := by decide +kernel
theorem dX10_one_104 : decode cX10_one 104 = .ok (.dup, 1) := by decide +kernel
theorem dX10_one_105 : decode cX10_one 105 = .ok (.getfield 206, 3) := by decide +kernel
theorem dX10_one_108 : decode cX10_one 108 = .ok (.iconst 1, 1) := by decide +kernel
theorem dX10_one_109 : decode cX10_one 109 = .ok (.isub, 1) := by decide +kernel
theorem dX10_one_110 : decode cX10_one 110 = .ok (.putfield 206, 3) := by decide +kernel
theorem dX10_one_113 : decode cX10_one 113 = .ok (.goto 134, 3) := by decide +kernel
theorem dX10_one_116 : decode cX10_one 116 = .ok (.iload_n 1, 1) := by decide +kernel
theorem dX10_one_117 : decode cX10_one 117 = .ok (.bipush 48, 2) := by decide +kernel
theorem dX10_one_119 : decode cX10_one 119 = .ok (.bipush 57, 2) := by decide +kernel
theorem dX10_one_121 : decode cX10_one 121 = .ok (.invokestatic 79, 3) := by decide +kernel
theorem dX10_one_124 : decode cX10_one 124 = .ok (.ifCond .eq 63, 3) := by decide +kernel
theorem dX10_one_127 : decode cX10_one 127 = .ok (.iconst 0, 1) := by decide +kernel
theorem dX10_one_128 : decode cX10_one 128 = .ok (.istore_n 2, 1) := by decide +kernel
theorem dX10_one_129 : decode cX10_one 129 = .ok (.iconst 0, 1) := by decide +kernel
theorem dX10_one_130 : decode cX10_one 130 = .ok (.istore_n 3, 1) := by decide +kernel
theorem dX10_one_131 : decode cX10_one 131 = .ok (.iload_n 3, 1) := by decide +kernel
theorem dX10_one_132 : decode cX10_one 132 = .ok (.iconst 4, 1) := by decide +kernel
theorem dX10_one_133 : decode cX10_one 133 = .ok (.if_icmp .ge 46, 3) := by decide +kernel
theorem dX10_one_136 : decode cX10_one 136 = .ok (.aload_n 0, 1) := by decide +kernel
theorem dX10_one_137 : decode cX10_one 137 = .ok (.invokevirtual 169, 3) := by decide +kernel
theorem dX10_one_140 : decode cX10_one 140 = .ok (.bipush 48, 2) := by decide +kernel
theorem dX10_one_142 : decode cX10_one 142 = .ok (.bipush 57, 2) := by decide +kernel
theorem dX10_one_144 : decode cX10_one 144 = .ok (.invokestatic 79, 3) := by decide +kernel
theorem dX10_one_147 : decode cX10_one 147 = .ok (.ifCond .eq 32, 3) := by decide +kernel
theorem dX10_one_150 : decode cX10_one 150 = .ok (.bipush 10, 2) := by decide +kernel
theorem dX10_one_152 : decode cX10_one 152 = .ok (.iload_n 2, 1) := by decide +kernel
theorem dX10_one_153 : decode cX10_one 153 = .ok (.imul, 1) := by decide +kernel
theorem dX10_one_154 : decode cX10_one 154 = .ok (.aload_n 0, 1) := by decide +kernel
theorem dX10_one_155 : decode cX10_one 155 = .ok (.invokevirtual 169, 3) := by decide +kernel
theorem dX10_one_158 : decode cX10_one 158 = .ok (.iadd, 1) := by decide +kernel
theorem dX10_one_159 : decode cX10_one 159 = .ok (.bipush 48, 2) := by decide +kernel
theorem dX10_one_161 : decode cX10_one 161 = .ok (.isub, 1) := by decide +kernel
theorem dX10_one_162 : decode cX10_one 162 = .ok (.istore_n 2, 1) := by decide +kernel
theorem dX10_one_163 : decode cX10_one 163 = .ok (.aload_n 0, 1) := by decide +kernel
theorem dX10_one_164 : decode cX10_one 164 = .ok (.dup, 1) := by decide +kernel
theorem dX10_one_165 : decode cX10_one 165 = .ok (.getfield 165, 3) := by decide +kernel
theorem dX10_one_168 : decode cX10_one 168 = .ok (.iconst 1, 1) := by decide +kernel
theorem dX10_one_169 : decode cX10_one 169 = .ok (.iadd, 1) := by decide +kernel
theorem dX10_one_170 : decode cX10_one 170 = .ok (.putfield 165, 3) := by decide +kernel
theorem dX10_one_173 : decode cX10_one 173 = .ok (.iinc 3 1, 3) := by decide +kernel
theorem dX10_one_176 : decode cX10_one 176 = .ok (.goto (-45), 3) := by decide +kernel
theorem dX10_one_179 : decode cX10_one 179 = .ok (.aload_n 0, 1) := by decide +kernel
theorem dX10_one_180 : decode cX10_one 180 = .ok (.iload_n 2, 1) := by decide +kernel
theorem dX10_one_181 : decode cX10_one 181 = .ok (.invokevirtual 181, 3) := by decide +kernel
theorem dX10_one_184 : decode cX10_one 184 = .ok (.goto 63, 3) := by decide +kernel
theorem dX10_one_187 : decode cX10_one 187 = .ok (.iload_n 1, 1) := by decide +kernel
theorem dX10_one_188 : decode cX10_one 188 = .ok (.ifCond .ge 7, 3) := by decide +kernel
theorem dX10_one_191 : decode cX10_one 191 = .ok (.iconst (-1), 1) := by decide +kernel
theorem dX10_one_192 : decode cX10_one 192 = .ok (.goto 8, 3) := by decide +kernel
theorem dX10_one_195 : decode cX10_one 195 = .ok (.aload_n 0, 1) := by decide +kernel
theorem dX10_one_196 : decode cX10_one 196 = .ok (.iload_n 1, 1) := by decide +kernel
theorem dX10_one_197 : decode cX10_one 197 = .ok (.invokevirtual 212, 3) := by decide +kernel
theorem dX10_one_200 : decode cX10_one 200 = .ok (.istore_n 2, 1) := by decide +kernel
theorem dX10_one_201 : decode cX10_one 201 = .ok (.aload_n 0, 1) := by decide +kernel
theorem dX10_one_202 : decode cX10_one 202 = .ok (.aload_n 0, 1) := by decide +kernel
theorem dX10_one_203 : decode cX10_one 203 = .ok (.getfield 161, 3) := by decide +kernel
theorem dX10_one_206 : decode cX10_one 206 = .ok (.ifCond .ne 7, 3) := by decide +kernel
theorem dX10_one_209 : decode cX10_one 209 = .ok (.iload_n 2, 1) := by decide +kernel
theorem dX10_one_210 : decode cX10_one 210 = .ok (.ifCond .ge 7, 3) := by decide +kernel
theorem dX10_one_213 : decode cX10_one 213 = .ok (.iconst 1, 1) := by decide +kernel
theorem dX10_one_214 : decode cX10_one 214 = .ok (.goto 4, 3) := by decide +kernel
theorem dX10_one_217 : decode cX10_one 217 = .ok (.iconst 0, 1) := by decide +kernel
theorem dX10_one_218 : decode cX10_one 218 = .ok (.putfield 161, 3) := by decide +kernel
theorem dX10_one_221 : decode cX10_one 221 = .ok (.aload_n 0, 1) := by decide +kernel
theorem dX10_one_222 : decode cX10_one 222 = .ok (.getfield 161, 3) := by decide +kernel
theorem dX10_one_225 : decode cX10_one 225 = .ok (.ifCond .ne 22, 3) := by decide +kernel
theorem dX10_one_228 : decode cX10_one 228 = .ok (.aload_n 0, 1) := by decide +kernel
theorem dX10_one_229 : decode cX10_one 229 = .ok (.sipush 10000, 3) := by decide +kernel
theorem dX10_one_232 : decode cX10_one 232 = .ok (.iload_n 2, 1) := by decide +kernel
theorem dX10_one_233 : decode cX10_one 233 = .ok (.iadd, 1) := by decide +kernel
theorem dX10_one_234 : decode cX10_one 234 = .ok (.invokevirtual 181, 3) := by decide +kernel
theorem dX10_one_237 : decode cX10_one 237 = .ok (.aload_n 0, 1) := by decide +kernel
theorem dX10_one_238 : decode cX10_one 238 = .ok (.dup, 1) := by decide +kernel
theorem dX10_one_239 : decode cX10_one 239 = .ok (.getfield 165, 3) := by decide +kernel
theorem dX10_one_242 : decode cX10_one 242 = .ok (.iconst 1, 1) := by decide +kernel
theorem dX10_one_243 : decode cX10_one 243 = .ok (.iadd, 1) := by decide +kernel
theorem dX10_one_244 : decode cX10_one 244 = .ok (.putfield 165, 3) := by decide +kernel
theorem dX10_one_247 : decode cX10_one 247 = .ok (.return_, 1) := by decide +kernel
theorem dX10_text_0 : decode cX10_text 0 = .ok (.iload_n 1, 1) := by decide +kernel
theorem dX10_text_1 : decode cX10_text 1 = .ok (.iconst 0, 1) := by decide +kernel
theorem dX10_text_2 : decode cX10_text 2 = .ok (.iconst 1, 1) := by decide +kernel
theorem dX10_text_3 : decode cX10_text 3 = .ok (.invokestatic 79, 3) := by decide +kernel
theorem dX10_text_6 : decode cX10_text 6 = .ok (.ifCond .ne 10, 3) := by decide +kernel
theorem dX10_text_9 : decode cX10_text 9 = .ok (.aload_n 0, 1) := by decide +kernel
theorem dX10_text_10 : decode cX10_text 10 = .ok (.ldc 91, 2) := by decide +kernel
theorem dX10_text_12 : decode cX10_text 12 = .ok (.invokevirtual 92, 3) := by decide +kernel
theorem dX10_text_15 : decode cX10_text 15 = .ok (.ireturn, 1) := by decide +kernel
theorem dX10_text_16 : decode cX10_text 16 = .ok (.aload_n 0, 1) := by decide +kernel
theorem dX10_text_17 : decode cX10_text 17 = .ok (.iload_n 1, 1) := by decide +kernel
theorem dX10_text_18 : decode cX10_text 18 = .ok (.putfield 196, 3) := by decide +kernel
theorem dX10_text_21 : decode cX10_text 21 = .ok (.aload_n 0, 1) := by decide +kernel
theorem dX10_text_22 : decode cX10_text 22 = .ok (.iconst 0, 1) := by decide +kernel
theorem dX10_text_23 : decode cX10_text 23 = .ok (.putfield 165, 3) := by decide +kernel
theorem dX10_text_26 : decode cX10_text 26 = .ok (.aload_n 0, 1) := by decide +kernel
theorem dX10_text_27 : decode cX10_text 27 = .ok (.iconst 0, 1) := by decide +kernel
theorem dX10_text_28 : decode cX10_text 28 = .ok (.putfield 206, 3) := by decide +kernel
theorem dX10_text_31 : decode cX10_text 31 = .ok (.aload_n 0, 1) := by decide +kernel
theorem dX10_text_32 : decode cX10_text 32 = .ok (.iconst 0, 1) := by decide +kernel
theorem dX10_text_33 : decode cX10_text 33 = .ok (.putfield 161, 3) := by decide +kernel
theorem dX10_text_36 : decode cX10_text 36 = .ok (.aload_n 0, 1) := by decide +kernel
theorem dX10_text_37 : decode cX10_text 37 = .ok (.iconst 0, 1) := by decide +kernel
theorem dX10_text_38 : decode cX10_text 38 = .ok (.putfield 172, 3) := by decide +kernel
theorem dX10_text_41 : decode cX10_text 41 = .ok (.aload_n 0, 1) := by decide +kernel
theorem dX10_text_42 : decode cX10_text 42 = .ok (.invokevirtual 209, 3) := by decide +kernel
theorem dX10_text_45 : decode cX10_text 45 = .ok (.aload_n 0, 1) := by decide +kernel
theorem dX10_text_46 : decode cX10_text 46 = .ok (.aload_n 0, 1) := by decide +kernel
theorem dX10_text_47 : decode cX10_text 47 = .ok (.getfield 161, 3) := by decide +kernel
theorem dX10_text_50 : decode cX10_text 50 = .ok (.ifCond .ne 17, 3) := by decide +kernel
theorem dX10_text_53 : decode cX10_text 53 = .ok (.aload_n 0, 1) := by decide +kernel
theorem dX10_text_54 : decode cX10_text 54 = .ok (.getfield 165, 3) := by decide +kernel
theorem dX10_text_57 : decode cX10_text 57 = .ok (.aload_n 0, 1) := by decide +kernel
theorem dX10_text_58 : decode cX10_text 58 = .ok (.getfield 9, 3) := by decide +kernel
theorem dX10_text_61 : decode cX10_text 61 = .ok (.bipush 16, 2) := by decide +kernel
theorem dX10_text_63 : decode cX10_text 63 = .ok (.iaload, 1) := by decide +kernel
theorem dX10_text_64 : decode cX10_text 64 = .ok (.if_icmp .ge 7, 3) := by decide +kernel
theorem dX10_text_67 : decode cX10_text 67 = .ok (.iconst 1, 1) := by decide +kernel
theorem dX10_text_68 : decode cX10_text 68 = .ok (.goto 4, 3) := by decide +kernel
theorem dX10_text_71 : decode cX10_text 71 = .ok (.iconst 0, 1) := by decide +kernel
theorem dX10_text_72 : decode cX10_text 72 = .ok (.putfield 161, 3) := by decide +kernel
theorem dX10_text_75 : decode cX10_text 75 = .ok (.aload_n 0, 1) := by decide +kernel
theorem dX10_text_76 : decode cX10_text 76 = .ok (.getfield 9, 3) := by decide +kernel
theorem dX10_text_79 : decode cX10_text 79 = .ok (.bipush 16, 2) := by decide +kernel
theorem dX10_text_81 : decode cX10_text 81 = .ok (.iconst 0, 1) := by decide +kernel
theorem dX10_text_82 : decode cX10_text 82 = .ok (.iastore, 1) := by decide +kernel
theorem dX10_text_83 : decode cX10_text 83 = .ok (.aload_n 0, 1) := by decide +kernel
theorem dX10_text_84 : decode cX10_text 84 = .ok (.getfield 161, 3) := by decide +kernel
theorem dX10_text_87 : decode cX10_text 87 = .ok (.ifCond .eq 11, 3) := by decide +kernel
theorem dX10_text_90 : decode cX10_text 90 = .ok (.bipush (-10), 2) := by decide +kernel
theorem dX10_text_92 : decode cX10_text 92 = .ok (.aload_n 0, 1) := by decide +kernel
theorem dX10_text_93 : decode cX10_text 93 = .ok (.getfield 165, 3) := by decide +kernel
theorem dX10_text_96 : decode cX10_text 96 = .ok (.isub, 1) := by decide +kernel
theorem dX10_text_97 : decode cX10_text 97 = .ok (.ireturn, 1) := by decide +kernel
theorem dX10_text_98 : decode cX10_text 98 = .ok (.aload_n 0, 1) := by decide +kernel
theorem dX10_text_99 : decode cX10_text 99 = .ok (.getfield 9, 3) := by decide +kernel
theorem dX10_text_102 : decode cX10_text 102 = .ok (.sipush 171, 3) := by decide +kernel
theorem dX10_text_105 : decode cX10_text 105 = .ok (.bipush 62, 2) := by decide +kernel
theorem dX10_text_107 : decode cX10_text 107 = .ok (.aload_n 0, 1) := by decide +kernel
theorem dX10_text_108 : decode cX10_text 108 = .ok (.getfield 196, 3) := by decide +kernel
theorem dX10_text_111 : decode cX10_text 111 = .ok (.imul, 1) := by decide +kernel
theorem dX10_text_112 : decode cX10_text 112 = .ok (.iadd, 1) := by decide +kernel
theorem dX10_text_113 : decode cX10_text 113 = .ok (.aload_n 0, 1) := by decide +kernel
theorem dX10_text_114 : decode cX10_text 114 = .ok (.getfield 172, 3) := by decide +kernel
theorem dX10_text_117 : decode cX10_text 117 = .ok (.iastore, 1) := by decide +kernel
theorem dX10_text_118 : decode cX10_text 118 = .ok (.iconst 0, 1) := by decide +kernel
theorem dX10_text_119 : decode cX10_text 119 = .ok (.istore_n 2, 1) := by decide +kernel
theorem dX10_text_120 : decode cX10_text 120 = .ok (.iload_n 2, 1) := by decide +kernel
theorem dX10_text_121 : decode cX10_text 121 = .ok (.aload_n 0, 1) := by decide +kernel
theorem dX10_text_122 : decode cX10_text 122 = .ok (.getfield 172, 3) := by decide +kernel
theorem dX10_text_125 : decode cX10_text 125 = .ok (.if_icmp .ge 35, 3) := by decide +kernel
theorem dX10_text_128 : decode cX10_text 128 = .ok (.aload_n 0, 1) := by decide +kernel
theorem dX10_text_129 : decode cX10_text 129 = .ok (.getfield 9, 3) := by decide +kernel
theorem dX10_text_132 : decode cX10_text 132 = .ok (.sipush 171, 3) := by decide +kernel
theorem dX10_text_135 : decode cX10_text 135 = .ok (.bipush 62, 2) := by decide +kernel
theorem dX10_text_137 : decode cX10_text 137 = .ok (.aload_n 0, 1) := by decide +kernel
theorem dX10_text_138 : decode cX10_text 138 = .ok (.getfield 196, 3) := by decide +kernel
theorem dX10_text_141 : decode cX10_text 141 = .ok (.imul, 1) := by decide +kernel
theorem dX10_text_142 : decode cX10_text 142 = .ok (.iadd, 1) := by decide +kernel
theorem dX10_text_143 : decode cX10_text 143 = .ok (.iconst 1, 1) := by decide +kernel
theorem dX10_text_144 : decode cX10_text 144 = .ok (.iadd, 1) := by decide +kernel
theorem dX10_text_145 : decode cX10_text 145 = .ok (.iload_n 2, 1) := by decide +kernel
theorem dX10_text_146 : decode cX10_text 146 = .ok (.iadd, 1) := by decide +kernel
theorem dX10_text_147 : decode cX10_text 147 = .ok (.aload_n 0, 1) := by decide +kernel
theorem dX10_text_148 : decode cX10_text 148 = .ok (.getfield 38, 3) := by decide +kernel
theorem dX10_text_151 : decode cX10_text 151 = .ok (.iload_n 2, 1) := by decide +kernel
theorem dX10_text_152 : decode cX10_text 152 = .ok (.iaload, 1) := by decide +kernel
theorem dX10_text_153 : decode cX10_text 153 = .ok (.iastore, 1) := by decide +kernel
theorem dX10_text_154 : decode cX10_text 154 = .ok (.iinc 2 1, 3) := by decide +kernel
theorem dX10_text_157 : decode cX10_text 157 = .ok (.goto (-37), 3) := by decide +kernel
theorem dX10_text_160 : decode cX10_text 160 = .ok (.iconst 1, 1) := by decide +kernel
theorem dX10_text_161 : decode cX10_text 161 = .ok (.ireturn, 1) := by decide +kernel
theorem dX10_untell_0 : decode cX10_untell 0 = .ok (.iload_n 1, 1) := by decide +kernel
theorem dX10_untell_1 : decode cX10_untell 1 = .ok (.iconst 0, 1) := by decide +kernel
theorem dX10_untell_2 : decode cX10_untell 2 = .ok (.iconst 1, 1) := by decide +kernel
theorem dX10_untell_3 : decode cX10_untell 3 = .ok (.invokestatic 79, 3) := by decide +kernel
theorem dX10_untell_6 : decode cX10_untell 6 = .ok (.ifCond .eq 27, 3) := by decide +kernel
theorem dX10_untell_9 : decode cX10_untell 9 = .ok (.aload_n 0, 1) := by decide +kernel
theorem dX10_untell_10 : decode cX10_untell 10 = .ok (.sipush 171, 3) := by decide +kernel
theorem dX10_untell_13 : decode cX10_untell 13 = .ok (.bipush 62, 2) := by decide +kernel
theorem dX10_untell_15 : decode cX10_untell 15 = .ok (.iload_n 1, 1) := by decide +kernel
theorem dX10_untell_16 : decode cX10_untell 16 = .ok (.imul, 1) := by decide +kernel
theorem dX10_untell_17 : decode cX10_untell 17 = .ok (.iadd, 1) := by decide +kernel
theorem dX10_untell_18 : decode cX10_untell 18 = .ok (.iconst 0, 1) := by decide +kernel
theorem dX10_untell_19 : decode cX10_untell 19 = .ok (.invokevirtual 88, 3) := by decide +kernel
theorem dX10_untell_22 : decode cX10_untell 22 = .ok (.ifCond .le 7, 3) := by decide +kernel
theorem dX10_untell_25 : decode cX10_untell 25 = .ok (.iconst 1, 1) := by decide +kernel
theorem dX10_untell_26 : decode cX10_untell 26 = .ok (.goto 13, 3) := by decide +kernel
theorem dX10_untell_29 : decode cX10_untell 29 = .ok (.iconst 0, 1) := by decide +kernel
theorem dX10_untell_30 : decode cX10_untell 30 = .ok (.goto 9, 3) := by decide +kernel
theorem dX10_untell_33 : decode cX10_untell 33 = .ok (.aload_n 0, 1) := by decide +kernel
theorem dX10_untell_34 : decode cX10_untell 34 = .ok (.ldc 91, 2) := by decide +kernel
theorem dX10_untell_36 : decode cX10_untell 36 = .ok (.invokevirtual 92, 3) := by decide +kernel
theorem dX10_untell_39 : decode cX10_untell 39 = .ok (.ireturn, 1) := by decide +kernel
theorem dX10_done_0 : decode cX10_done 0 = .ok (.iload_n 0, 1) := by decide +kernel
theorem dX10_done_1 : decode cX10_done 1 = .ok (.tableswitch 136 20000 20008 #[51, 65, 79, 90, 101, 112, 116, 120, 124], 51) := by decide +kernel
theorem dX10_done_52 : decode cX10_done 52 = .ok (.iload_n 1, 1) := by decide +kernel
theorem dX10_done_53 : decode cX10_done 53 = .ok (.ifCond .ne 7, 3) := by decide +kernel
theorem dX10_done_56 : decode cX10_done 56 = .ok (.iload_n 2, 1) := by decide +kernel
theorem dX10_done_57 : decode cX10_done 57 = .ok (.ifCond .eq 7, 3) := by decide +kernel
theorem dX10_done_60 : decode cX10_done 60 = .ok (.iconst 1, 1) := by decide +kernel
theorem dX10_done_61 : decode cX10_done 61 = .ok (.goto 4, 3) := by decide +kernel
theorem dX10_done_64 : decode cX10_done 64 = .ok (.iconst 0, 1) := by decide +kernel
theorem dX10_done_65 : decode cX10_done 65 = .ok (.ireturn, 1) := by decide +kernel
theorem dX10_done_66 : decode cX10_done 66 = .ok (.iload_n 1, 1) := by decide +kernel
theorem dX10_done_67 : decode cX10_done 67 = .ok (.ifCond .eq 11, 3) := by decide +kernel
theorem dX10_done_70 : decode cX10_done 70 = .ok (.iload_n 2, 1) := by decide +kernel
theorem dX10_done_71 : decode cX10_done 71 = .ok (.ifCond .eq 7, 3) := by decide +kernel
theorem dX10_done_74 : decode cX10_done 74 = .ok (.iconst 1, 1) := by decide +kernel
theorem dX10_done_75 : decode cX10_done 75 = .ok (.goto 4, 3) := by decide +kernel
theorem dX10_done_78 : decode cX10_done 78 = .ok (.iconst 0, 1) := by decide +kernel
theorem dX10_done_79 : decode cX10_done 79 = .ok (.ireturn, 1) := by decide +kernel
theorem dX10_done_80 : decode cX10_done 80 = .ok (.iload_n 1, 1) := by decide +kernel
theorem dX10_done_81 : decode cX10_done 81 = .ok (.iload_n 2, 1) := by decide +kernel
theorem dX10_done_82 : decode cX10_done 82 = .ok (.if_icmp .ge 7, 3) := by decide +kernel
theorem dX10_done_85 : decode cX10_done 85 = .ok (.iconst 1, 1) := by decide +kernel
theorem dX10_done_86 : decode cX10_done 86 = .ok (.goto 4, 3) := by decide +kernel
theorem dX10_done_89 : decode cX10_done 89 = .ok (.iconst 0, 1) := by decide +kernel
theorem dX10_done_90 : decode cX10_done 90 = .ok (.ireturn, 1) := by decide +kernel
theorem dX10_done_91 : decode cX10_done 91 = .ok (.iload_n 1, 1) := by decide +kernel
theorem dX10_done_92 : decode cX10_done 92 = .ok (.iload_n 2, 1) := by decide +kernel
theorem dX10_done_93 : decode cX10_done 93 = .ok (.if_icmp .ne 7, 3) := by decide +kernel
theorem dX10_done_96 : decode cX10_done 96 = .ok (.iconst 1, 1) := by decide +kernel
theorem dX10_done_97 : decode cX10_done 97 = .ok (.goto 4, 3) := by decide +kernel
theorem dX10_done_100 : decode cX10_done 100 = .ok (.iconst 0, 1) := by decide +kernel
theorem dX10_done_101 : decode cX10_done 101 = .ok (.ireturn, 1) := by decide +kernel
theorem dX10_done_102 : decode cX10_done 102 = .ok (.iload_n 1, 1) := by decide +kernel
theorem dX10_done_103 : decode cX10_done 103 = .ok (.iload_n 2, 1) := by decide +kernel
theorem dX10_done_104 : decode cX10_done 104 = .ok (.if_icmp .le 7, 3) := by decide +kernel
theorem dX10_done_107 : decode cX10_done 107 = .ok (.iconst 1, 1) := by decide +kernel
theorem dX10_done_108 : decode cX10_done 108 = .ok (.goto 4, 3) := by decide +kernel
theorem dX10_done_111 : decode cX10_done 111 = .ok (.iconst 0, 1) := by decide +kernel
theorem dX10_done_112 : decode cX10_done 112 = .ok (.ireturn, 1) := by decide +kernel
theorem dX10_done_113 : decode cX10_done 113 = .ok (.iload_n 1, 1) := by decide +kernel
theorem dX10_done_114 : decode cX10_done 114 = .ok (.iload_n 2, 1) := by decide +kernel
theorem dX10_done_115 : decode cX10_done 115 = .ok (.iadd, 1) := by decide +kernel
theorem dX10_done_116 : decode cX10_done 116 = .ok (.ireturn, 1) := by decide +kernel
theorem dX10_done_117 : decode cX10_done 117 = .ok (.iload_n 1, 1) := by decide +kernel
theorem dX10_done_118 : decode cX10_done 118 = .ok (.iload_n 2, 1) := by decide +kernel
theorem dX10_done_119 : decode cX10_done 119 = .ok (.isub, 1) := by decide +kernel
theorem dX10_done_120 : decode cX10_done 120 = .ok (.ireturn, 1) := by decide +kernel
theorem dX10_done_121 : decode cX10_done 121 = .ok (.iload_n 1, 1) := by decide +kernel
theorem dX10_done_122 : decode cX10_done 122 = .ok (.iload_n 2, 1) := by decide +kernel
theorem dX10_done_123 : decode cX10_done 123 = .ok (.imul, 1) := by decide +kernel
theorem dX10_done_124 : decode cX10_done 124 = .ok (.ireturn, 1) := by decide +kernel
theorem dX10_done_125 : decode cX10_done 125 = .ok (.iload_n 2, 1) := by decide +kernel
theorem dX10_done_126 : decode cX10_done 126 = .ok (.ifCond .ne 7, 3) := by decide +kernel
theorem dX10_done_129 : decode cX10_done 129 = .ok (.iconst 0, 1) := by decide +kernel
theorem dX10_done_130 : decode cX10_done 130 = .ok (.goto 6, 3) := by decide +kernel
theorem dX10_done_133 : decode cX10_done 133 = .ok (.iload_n 1, 1) := by decide +kernel
theorem dX10_done_134 : decode cX10_done 134 = .ok (.iload_n 2, 1) := by decide +kernel
theorem dX10_done_135 : decode cX10_done 135 = .ok (.idiv, 1) := by decide +kernel
theorem dX10_done_136 : decode cX10_done 136 = .ok (.ireturn, 1) := by decide +kernel
theorem dX10_done_137 : decode cX10_done 137 = .ok (.iload_n 2, 1) := by decide +kernel
theorem dX10_done_138 : decode cX10_done 138 = .ok (.ifCond .ne 7, 3) := by decide +kernel
theorem dX10_done_141 : decode cX10_done 141 = .ok (.iconst 0, 1) := by decide +kernel
theorem dX10_done_142 : decode cX10_done 142 = .ok (.goto 6, 3) := by decide +kernel
theorem dX10_done_145 : decode cX10_done 145 = .ok (.iload_n 1, 1) := by decide +kernel
theorem dX10_done_146 : decode cX10_done 146 = .ok (.iload_n 2, 1) := by decide +kernel
theorem dX10_done_147 : decode cX10_done 147 = .ok (.irem, 1) := by decide +kernel
theorem dX10_done_148 : decode cX10_done 148 = .ok (.ireturn, 1) := by decide +kernel
theorem dX10_worked_0 : decode cX10_worked 0 = .ok (.iconst 0, 1) := by decide +kernel
theorem dX10_worked_1 : decode cX10_worked 1 = .ok (.istore_n 2, 1) := by decide +kernel
theorem dX10_worked_2 : decode cX10_worked 2 = .ok (.iload_n 1, 1) := by decide +kernel
theorem dX10_worked_3 : decode cX10_worked 3 = .ok (.istore_n 3, 1) := by decide +kernel
theorem dX10_worked_4 : decode cX10_worked 4 = .ok (.iload_n 3, 1) := by decide +kernel
theorem dX10_worked_5 : decode cX10_worked 5 = .ok (.iload_n 1, 1) := by decide +kernel
theorem dX10_worked_6 : decode cX10_worked 6 = .ok (.aload_n 0, 1) := by decide +kernel
theorem dX10_worked_7 : decode cX10_worked 7 = .ok (.getfield 9, 3) := by decide +kernel
theorem dX10_worked_10 : decode cX10_worked 10 = .ok (.iload_n 1, 1) := by decide +kernel
theorem dX10_worked_11 : decode cX10_worked 11 = .ok (.iconst 1, 1) := by decide +kernel
theorem dX10_worked_12 : decode cX10_worked 12 = .ok (.isub, 1) := by decide +kernel
theorem dX10_worked_13 : decode cX10_worked 13 = .ok (.iaload, 1) := by decide +kernel
theorem dX10_worked_14 : decode cX10_worked 14 = .ok (.iadd, 1) := by decide +kernel
theorem dX10_worked_15 : decode cX10_worked 15 = .ok (.if_icmp .ge 126, 3) := by decide +kernel
theorem dX10_worked_18 : decode cX10_worked 18 = .ok (.aload_n 0, 1) := by decide +kernel
theorem dX10_worked_19 : decode cX10_worked 19 = .ok (.getfield 9, 3) := by decide +kernel
theorem dX10_worked_22 : decode cX10_worked 22 = .ok (.iload_n 3, 1) := by decide +kernel
theorem dX10_worked_23 : decode cX10_worked 23 = .ok (.iaload, 1) := by decide +kernel
theorem dX10_worked_24 : decode cX10_worked 24 = .ok (.istore 4, 2) := by decide +kernel
theorem dX10_worked_26 : decode cX10_worked 26 = .ok (.iload 4, 2) := by decide +kernel
theorem dX10_worked_28 : decode cX10_worked 28 = .ok (.sipush 20000, 3) := by decide +kernel
theorem dX10_worked_31 : decode cX10_worked 31 = .ok (.if_icmp .ge 39, 3) := by decide +kernel
theorem dX10_worked_34 : decode cX10_worked 34 = .ok (.aload_n 0, 1) := by decide +kernel
theorem dX10_worked_35 : decode cX10_worked 35 = .ok (.getfield 44, 3) := by decide +kernel
theorem dX10_worked_38 : decode cX10_worked 38 = .ok (.iload_n 2, 1) := by decide +kernel
theorem dX10_worked_39 : decode cX10_worked 39 = .ok (.iload 4, 2) := by decide +kernel
theorem dX10_worked_41 : decode cX10_worked 41 = .ok (.sipush 10000, 3) := by decide +kernel
theorem dX10_worked_44 : decode cX10_worked 44 = .ok (.if_icmp .ge 8, 3) := by decide +kernel
theorem dX10_worked_47 : decode cX10_worked 47 = .ok (.iload 4, 2) := by decide +kernel
theorem dX10_worked_49 : decode cX10_worked 49 = .ok (.goto 14, 3) := by decide +kernel
theorem dX10_worked_52 : decode cX10_worked 52 = .ok (.aload_n 0, 1) := by decide +kernel
theorem dX10_worked_53 : decode cX10_worked 53 = .ok (.getfield 41, 3) := by decide +kernel
theorem dX10_worked_56 : decode cX10_worked 56 = .ok (.iload 4, 2) := by decide +kernel
theorem dX10_worked_58 : decode cX10_worked 58 = .ok (.sipush 10000, 3) := by decide +kernel
theorem dX10_worked_61 : decode cX10_worked 61 = .ok (.isub, 1) := by decide +kernel
theorem dX10_worked_62 : decode cX10_worked 62 = .ok (.iaload, 1) := by decide +kernel
theorem dX10_worked_63 : decode cX10_worked 63 = .ok (.iastore, 1) := by decide +kernel
theorem dX10_worked_64 : decode cX10_worked 64 = .ok (.iinc 2 1, 3) := by decide +kernel
theorem dX10_worked_67 : decode cX10_worked 67 = .ok (.goto 68, 3) := by decide +kernel
theorem dX10_worked_70 : decode cX10_worked 70 = .ok (.iload 4, 2) := by decide +kernel
theorem dX10_worked_72 : decode cX10_worked 72 = .ok (.sipush 20010, 3) := by decide +kernel
theorem dX10_worked_75 : decode cX10_worked 75 = .ok (.if_icmp .ne 30, 3) := by decide +kernel
theorem dX10_worked_78 : decode cX10_worked 78 = .ok (.aload_n 0, 1) := by decide +kernel
theorem dX10_worked_79 : decode cX10_worked 79 = .ok (.getfield 44, 3) := by decide +kernel
theorem dX10_worked_82 : decode cX10_worked 82 = .ok (.iload_n 2, 1) := by decide +kernel
theorem dX10_worked_83 : decode cX10_worked 83 = .ok (.iconst 1, 1) := by decide +kernel
theorem dX10_worked_84 : decode cX10_worked 84 = .ok (.isub, 1) := by decide +kernel
theorem dX10_worked_85 : decode cX10_worked 85 = .ok (.aload_n 0, 1) := by decide +kernel
theorem dX10_worked_86 : decode cX10_worked 86 = .ok (.getfield 44, 3) := by decide +kernel
theorem dX10_worked_89 : decode cX10_worked 89 = .ok (.iload_n 2, 1) := by decide +kernel
theorem dX10_worked_90 : decode cX10_worked 90 = .ok (.iconst 1, 1) := by decide +kernel
theorem dX10_worked_91 : decode cX10_worked 91 = .ok (.isub, 1) := by decide +kernel
theorem dX10_worked_92 : decode cX10_worked 92 = .ok (.iaload, 1) := by decide +kernel
theorem dX10_worked_93 : decode cX10_worked 93 = .ok (.ifCond .ne 7, 3) := by decide +kernel
theorem dX10_worked_96 : decode cX10_worked 96 = .ok (.iconst 1, 1) := by decide +kernel
theorem dX10_worked_97 : decode cX10_worked 97 = .ok (.goto 4, 3) := by decide +kernel
theorem dX10_worked_100 : decode cX10_worked 100 = .ok (.iconst 0, 1) := by decide +kernel
theorem dX10_worked_101 : decode cX10_worked 101 = .ok (.iastore, 1) := by decide +kernel
theorem dX10_worked_102 : decode cX10_worked 102 = .ok (.goto 33, 3) := by decide +kernel
theorem dX10_worked_105 : decode cX10_worked 105 = .ok (.iinc 2 (-1), 3) := by decide +kernel
theorem dX10_worked_108 : decode cX10_worked 108 = .ok (.aload_n 0, 1) := by decide +kernel
theorem dX10_worked_109 : decode cX10_worked 109 = .ok (.getfield 44, 3) := by decide +kernel
theorem dX10_worked_112 : decode cX10_worked 112 = .ok (.iload_n 2, 1) := by decide +kernel
theorem dX10_worked_113 : decode cX10_worked 113 = .ok (.iconst 1, 1) := by decide +kernel
theorem dX10_worked_114 : decode cX10_worked 114 = .ok (.isub, 1) := by decide +kernel
theorem dX10_worked_115 : decode cX10_worked 115 = .ok (.iload 4, 2) := by decide +kernel
theorem dX10_worked_117 : decode cX10_worked 117 = .ok (.aload_n 0, 1) := by decide +kernel
theorem dX10_worked_118 : decode cX10_worked 118 = .ok (.getfield 44, 3) := by decide +kernel
theorem dX10_worked_121 : decode cX10_worked 121 = .ok (.iload_n 2, 1) := by decide +kernel
theorem dX10_worked_122 : decode cX10_worked 122 = .ok (.iconst 1, 1) := by decide +kernel
theorem dX10_worked_123 : decode cX10_worked 123 = .ok (.isub, 1) := by decide +kernel
theorem dX10_worked_124 : decode cX10_worked 124 = .ok (.iaload, 1) := by decide +kernel
theorem dX10_worked_125 : decode cX10_worked 125 = .ok (.aload_n 0, 1) := by decide +kernel
theorem dX10_worked_126 : decode cX10_worked 126 = .ok (.getfield 44, 3) := by decide +kernel
theorem dX10_worked_129 : decode cX10_worked 129 = .ok (.iload_n 2, 1) := by decide +kernel
theorem dX10_worked_130 : decode cX10_worked 130 = .ok (.iaload, 1) := by decide +kernel
theorem dX10_worked_131 : decode cX10_worked 131 = .ok (.invokestatic 215, 3) := by decide +kernel
theorem dX10_worked_134 : decode cX10_worked 134 = .ok (.iastore, 1) := by decide +kernel
theorem dX10_worked_135 : decode cX10_worked 135 = .ok (.iinc 3 1, 3) := by decide +kernel
theorem dX10_worked_138 : decode cX10_worked 138 = .ok (.goto (-134), 3) := by decide +kernel
theorem dX10_worked_141 : decode cX10_worked 141 = .ok (.aload_n 0, 1) := by decide +kernel
theorem dX10_worked_142 : decode cX10_worked 142 = .ok (.getfield 44, 3) := by decide +kernel
theorem dX10_worked_145 : decode cX10_worked 145 = .ok (.iconst 0, 1) := by decide +kernel
theorem dX10_worked_146 : decode cX10_worked 146 = .ok (.iaload, 1) := by decide +kernel
theorem dX10_worked_147 : decode cX10_worked 147 = .ok (.ireturn, 1) := by decide +kernel
theorem dX10_hasText_0 : decode cX10_hasText 0 = .ok (.aload_n 0, 1) := by decide +kernel
theorem dX10_hasText_1 : decode cX10_hasText 1 = .ok (.getfield 9, 3) := by decide +kernel
theorem dX10_hasText_4 : decode cX10_hasText 4 = .ok (.sipush 171, 3) := by decide +kernel
theorem dX10_hasText_7 : decode cX10_hasText 7 = .ok (.bipush 62, 2) := by decide +kernel
theorem dX10_hasText_9 : decode cX10_hasText 9 = .ok (.iload_n 1, 1) := by decide +kernel
theorem dX10_hasText_10 : decode cX10_hasText 10 = .ok (.imul, 1) := by decide +kernel
theorem dX10_hasText_11 : decode cX10_hasText 11 = .ok (.iadd, 1) := by decide +kernel
theorem dX10_hasText_12 : decode cX10_hasText 12 = .ok (.iaload, 1) := by decide +kernel
theorem dX10_hasText_13 : decode cX10_hasText 13 = .ok (.ifCond .le 7, 3) := by decide +kernel
theorem dX10_hasText_16 : decode cX10_hasText 16 = .ok (.iconst 1, 1) := by decide +kernel
theorem dX10_hasText_17 : decode cX10_hasText 17 = .ok (.goto 4, 3) := by decide +kernel
theorem dX10_hasText_20 : decode cX10_hasText 20 = .ok (.iconst 0, 1) := by decide +kernel
theorem dX10_hasText_21 : decode cX10_hasText 21 = .ok (.ireturn, 1) := by decide +kernel
theorem dX10_given_0 : decode cX10_given 0 = .ok (.aload_n 0, 1) := by decide +kernel
theorem dX10_given_1 : decode cX10_given 1 = .ok (.getfield 41, 3) := by decide +kernel
theorem dX10_given_4 : decode cX10_given 4 = .ok (.iconst 0, 1) := by decide +kernel
theorem dX10_given_5 : decode cX10_given 5 = .ok (.iload_n 2, 1) := by decide +kernel
theorem dX10_given_6 : decode cX10_given 6 = .ok (.iastore, 1) := by decide +kernel
theorem dX10_given_7 : decode cX10_given 7 = .ok (.aload_n 0, 1) := by decide +kernel
theorem dX10_given_8 : decode cX10_given 8 = .ok (.getfield 41, 3) := by decide +kernel
theorem dX10_given_11 : decode cX10_given 11 = .ok (.iconst 1, 1) := by decide +kernel
theorem dX10_given_12 : decode cX10_given 12 = .ok (.iload_n 3, 1) := by decide +kernel
theorem dX10_given_13 : decode cX10_given 13 = .ok (.iastore, 1) := by decide +kernel
theorem dX10_given_14 : decode cX10_given 14 = .ok (.aload_n 0, 1) := by decide +kernel
theorem dX10_given_15 : decode cX10_given 15 = .ok (.getfield 41, 3) := by decide +kernel
theorem dX10_given_18 : decode cX10_given 18 = .ok (.iconst 2, 1) := by decide +kernel
theorem dX10_given_19 : decode cX10_given 19 = .ok (.iload 4, 2) := by decide +kernel
theorem dX10_given_21 : decode cX10_given 21 = .ok (.iastore, 1) := by decide +kernel
theorem dX10_given_22 : decode cX10_given 22 = .ok (.aload_n 0, 1) := by decide +kernel
theorem dX10_given_23 : decode cX10_given 23 = .ok (.getfield 41, 3) := by decide +kernel
theorem dX10_given_26 : decode cX10_given 26 = .ok (.iconst 3, 1) := by decide +kernel
theorem dX10_given_27 : decode cX10_given 27 = .ok (.iload 5, 2) := by decide +kernel
theorem dX10_given_29 : decode cX10_given 29 = .ok (.iastore, 1) := by decide +kernel
theorem dX10_given_30 : decode cX10_given 30 = .ok (.aload_n 0, 1) := by decide +kernel
theorem dX10_given_31 : decode cX10_given 31 = .ok (.getfield 41, 3) := by decide +kernel
theorem dX10_given_34 : decode cX10_given 34 = .ok (.iconst 4, 1) := by decide +kernel
theorem dX10_given_35 : decode cX10_given 35 = .ok (.iload 6, 2) := by decide +kernel
theorem dX10_given_37 : decode cX10_given 37 = .ok (.iastore, 1) := by decide +kernel
theorem dX10_given_38 : decode cX10_given 38 = .ok (.aload_n 0, 1) := by decide +kernel
theorem dX10_given_39 : decode cX10_given 39 = .ok (.sipush 171, 3) := by decide +kernel
theorem dX10_given_42 : decode cX10_given 42 = .ok (.bipush 62, 2) := by decide +kernel
theorem dX10_given_44 : decode cX10_given 44 = .ok (.iload_n 1, 1) := by decide +kernel
theorem dX10_given_45 : decode cX10_given 45 = .ok (.imul, 1) := by decide +kernel
theorem dX10_given_46 : decode cX10_given 46 = .ok (.iadd, 1) := by decide +kernel
theorem dX10_given_47 : decode cX10_given 47 = .ok (.iconst 1, 1) := by decide +kernel
theorem dX10_given_48 : decode cX10_given 48 = .ok (.iadd, 1) := by decide +kernel
theorem dX10_given_49 : decode cX10_given 49 = .ok (.invokevirtual 218, 3) := by decide +kernel
theorem dX10_given_52 : decode cX10_given 52 = .ok (.ireturn, 1) := by decide +kernel
theorem dX10_learns_0 : decode cX10_learns 0 = .ok (.aload_n 0, 1) := by decide +kernel
theorem dX10_learns_1 : decode cX10_learns 1 = .ok (.iconst 0, 1) := by decide +kernel
theorem dX10_learns_2 : decode cX10_learns 2 = .ok (.invokevirtual 221, 3) := by decide +kernel
theorem dX10_learns_5 : decode cX10_learns 5 = .ok (.ifCond .eq 39, 3) := by decide +kernel
theorem dX10_learns_8 : decode cX10_learns 8 = .ok (.aload_n 0, 1) := by decide +kernel
theorem dX10_learns_9 : decode cX10_learns 9 = .ok (.iconst 0, 1) := by decide +kernel
theorem dX10_learns_10 : decode cX10_learns 10 = .ok (.aload_n 0, 1) := by decide +kernel
theorem dX10_learns_11 : decode cX10_learns 11 = .ok (.getfield 9, 3) := by decide +kernel
theorem dX10_learns_14 : decode cX10_learns 14 = .ok (.bipush 7, 2) := by decide +kernel
theorem dX10_learns_16 : decode cX10_learns 16 = .ok (.iaload, 1) := by decide +kernel
theorem dX10_learns_17 : decode cX10_learns 17 = .ok (.aload_n 0, 1) := by decide +kernel
theorem dX10_learns_18 : decode cX10_learns 18 = .ok (.getfield 9, 3) := by decide +kernel
theorem dX10_learns_21 : decode cX10_learns 21 = .ok (.bipush 8, 2) := by decide +kernel
theorem dX10_learns_23 : decode cX10_learns 23 = .ok (.iaload, 1) := by decide +kernel
theorem dX10_learns_24 : decode cX10_learns 24 = .ok (.aload_n 0, 1) := by decide +kernel
theorem dX10_learns_25 : decode cX10_learns 25 = .ok (.getfield 9, 3) := by decide +kernel
theorem dX10_learns_28 : decode cX10_learns 28 = .ok (.iconst 5, 1) := by decide +kernel
theorem dX10_learns_29 : decode cX10_learns 29 = .ok (.iaload, 1) := by decide +kernel
theorem dX10_learns_30 : decode cX10_learns 30 = .ok (.aload_n 0, 1) := by decide +kernel
theorem dX10_learns_31 : decode cX10_learns 31 = .ok (.getfield 9, 3) := by decide +kernel
theorem dX10_learns_34 : decode cX10_learns 34 = .ok (.bipush 6, 2) := by decide +kernel
theorem dX10_learns_36 : decode cX10_learns 36 = .ok (.iaload, 1) := by decide +kernel
theorem dX10_learns_37 : decode cX10_learns 37 = .ok (.iload_n 1, 1) := by decide +kernel
theorem dX10_learns_38 : decode cX10_learns 38 = .ok (.invokevirtual 224, 3) := by decide +kernel
theorem dX10_learns_41 : decode cX10_learns 41 = .ok (.goto 9, 3) := by decide +kernel
theorem dX10_learns_44 : decode cX10_learns 44 = .ok (.iconst 5, 1) := by decide +kernel
theorem dX10_learns_45 : decode cX10_learns 45 = .ok (.iload_n 1, 1) := by decide +kernel
theorem dX10_learns_46 : decode cX10_learns 46 = .ok (.bipush 20, 2) := by decide +kernel
theorem dX10_learns_48 : decode cX10_learns 48 = .ok (.idiv, 1) := by decide +kernel
theorem dX10_learns_49 : decode cX10_learns 49 = .ok (.isub, 1) := by decide +kernel
theorem dX10_learns_50 : decode cX10_learns 50 = .ok (.iconst 0, 1) := by decide +kernel
theorem dX10_learns_51 : decode cX10_learns 51 = .ok (.sipush 999, 3) := by decide +kernel
theorem dX10_learns_54 : decode cX10_learns 54 = .ok (.invokestatic 136, 3) := by decide +kernel
theorem dX10_learns_57 : decode cX10_learns 57 = .ok (.ireturn, 1) := by decide +kernel
theorem dX10_dares_0 : decode cX10_dares 0 = .ok (.aload_n 0, 1) := by decide +kernel
theorem dX10_dares_1 : decode cX10_dares 1 = .ok (.iconst 1, 1) := by decide +kernel
theorem dX10_dares_2 : decode cX10_dares 2 = .ok (.invokevirtual 221, 3) := by decide +kernel
theorem dX10_dares_5 : decode cX10_dares 5 = .ok (.ifCond .eq 38, 3) := by decide +kernel
theorem dX10_dares_8 : decode cX10_dares 8 = .ok (.aload_n 0, 1) := by decide +kernel
theorem dX10_dares_9 : decode cX10_dares 9 = .ok (.iconst 1, 1) := by decide +kernel
theorem dX10_dares_10 : decode cX10_dares 10 = .ok (.iload_n 1, 1) := by decide +kernel
theorem dX10_dares_11 : decode cX10_dares 11 = .ok (.aload_n 0, 1) := by decide +kernel
theorem dX10_dares_12 : decode cX10_dares 12 = .ok (.getfield 9, 3) := by decide +kernel
theorem dX10_dares_15 : decode cX10_dares 15 = .ok (.iconst 2, 1) := by decide +kernel
theorem dX10_dares_16 : decode cX10_dares 16 = .ok (.iaload, 1) := by decide +kernel
theorem dX10_dares_17 : decode cX10_dares 17 = .ok (.aload_n 0, 1) := by decide +kernel
theorem dX10_dares_18 : decode cX10_dares 18 = .ok (.getfield 9, 3) := by decide +kernel
theorem dX10_dares_21 : decode cX10_dares 21 = .ok (.iconst 5, 1) := by decide +kernel
theorem dX10_dares_22 : decode cX10_dares 22 = .ok (.iaload, 1) := by decide +kernel
theorem dX10_dares_23 : decode cX10_dares 23 = .ok (.aload_n 0, 1) := by decide +kernel
theorem dX10_dares_24 : decode cX10_dares 24 = .ok (.getfield 9, 3) := by decide +kernel
theorem dX10_dares_27 : decode cX10_dares 27 = .ok (.bipush 6, 2) := by decide +kernel
theorem dX10_dares_29 : decode cX10_dares 29 = .ok (.iaload, 1) := by decide +kernel
theorem dX10_dares_30 : decode cX10_dares 30 = .ok (.iconst 0, 1) := by decide +kernel
theorem dX10_dares_31 : decode cX10_dares 31 = .ok (.invokevirtual 224, 3) := by decide +kernel
theorem dX10_dares_34 : decode cX10_dares 34 = .ok (.ifCond .eq 7, 3) := by decide +kernel
theorem dX10_dares_37 : decode cX10_dares 37 = .ok (.iconst 1, 1) := by decide +kernel
theorem dX10_dares_38 : decode cX10_dares 38 = .ok (.goto 4, 3) := by decide +kernel
theorem dX10_dares_41 : decode cX10_dares 41 = .ok (.iconst 0, 1) := by decide +kernel
theorem dX10_dares_42 : decode cX10_dares 42 = .ok (.ireturn, 1) := by decide +kernel
theorem dX10_dares_43 : decode cX10_dares 43 = .ok (.iload_n 1, 1) := by decide +kernel
theorem dX10_dares_44 : decode cX10_dares 44 = .ok (.aload_n 0, 1) := by decide +kernel
theorem dX10_dares_45 : decode cX10_dares 45 = .ok (.getfield 9, 3) := by decide +kernel
theorem dX10_dares_48 : decode cX10_dares 48 = .ok (.iconst 2, 1) := by decide +kernel
theorem dX10_dares_49 : decode cX10_dares 49 = .ok (.iaload, 1) := by decide +kernel
theorem dX10_dares_50 : decode cX10_dares 50 = .ok (.aload_n 0, 1) := by decide +kernel
theorem dX10_dares_51 : decode cX10_dares 51 = .ok (.getfield 9, 3) := by decide +kernel
theorem dX10_dares_54 : decode cX10_dares 54 = .ok (.iconst 5, 1) := by decide +kernel
theorem dX10_dares_55 : decode cX10_dares 55 = .ok (.iaload, 1) := by decide +kernel
theorem dX10_dares_56 : decode cX10_dares 56 = .ok (.iconst 2, 1) := by decide +kernel
theorem dX10_dares_57 : decode cX10_dares 57 = .ok (.idiv, 1) := by decide +kernel
theorem dX10_dares_58 : decode cX10_dares 58 = .ok (.iadd, 1) := by decide +kernel
theorem dX10_dares_59 : decode cX10_dares 59 = .ok (.aload_n 0, 1) := by decide +kernel
theorem dX10_dares_60 : decode cX10_dares 60 = .ok (.getfield 9, 3) := by decide +kernel
theorem dX10_dares_63 : decode cX10_dares 63 = .ok (.bipush 6, 2) := by decide +kernel
theorem dX10_dares_65 : decode cX10_dares 65 = .ok (.iaload, 1) := by decide +kernel
theorem dX10_dares_66 : decode cX10_dares 66 = .ok (.bipush 100, 2) := by decide +kernel
theorem dX10_dares_68 : decode cX10_dares 68 = .ok (.idiv, 1) := by decide +kernel
theorem dX10_dares_69 : decode cX10_dares 69 = .ok (.iadd, 1) := by decide +kernel
theorem dX10_dares_70 : decode cX10_dares 70 = .ok (.iconst 1, 1) := by decide +kernel
theorem dX10_dares_71 : decode cX10_dares 71 = .ok (.iadd, 1) := by decide +kernel
theorem dX10_dares_72 : decode cX10_dares 72 = .ok (.if_icmp .ge 7, 3) := by decide +kernel
theorem dX10_dares_75 : decode cX10_dares 75 = .ok (.iconst 1, 1) := by decide +kernel
theorem dX10_dares_76 : decode cX10_dares 76 = .ok (.goto 4, 3) := by decide +kernel
theorem dX10_dares_79 : decode cX10_dares 79 = .ok (.iconst 0, 1) := by decide +kernel
theorem dX10_dares_80 : decode cX10_dares 80 = .ok (.ireturn, 1) := by decide +kernel
theorem dX10_drawn_0 : decode cX10_drawn 0 = .ok (.aload_n 0, 1) := by decide +kernel
theorem dX10_drawn_1 : decode cX10_drawn 1 = .ok (.getfield 9, 3) := by decide +kernel
theorem dX10_drawn_4 : decode cX10_drawn 4 = .ok (.bipush 18, 2) := by decide +kernel
theorem dX10_drawn_6 : decode cX10_drawn 6 = .ok (.aload_n 0, 1) := by decide +kernel
theorem dX10_drawn_7 : decode cX10_drawn 7 = .ok (.getfield 9, 3) := by decide +kernel
theorem dX10_drawn_10 : decode cX10_drawn 10 = .ok (.bipush 18, 2) := by decide +kernel
theorem dX10_drawn_12 : decode cX10_drawn 12 = .ok (.iaload, 1) := by decide +kernel
theorem dX10_drawn_13 : decode cX10_drawn 13 = .ok (.ldc 228, 2) := by decide +kernel
theorem dX10_drawn_15 : decode cX10_drawn 15 = .ok (.imul, 1) := by decide +kernel
theorem dX10_drawn_16 : decode cX10_drawn 16 = .ok (.sipush 12345, 3) := by decide +kernel
theorem dX10_drawn_19 : decode cX10_drawn 19 = .ok (.iadd, 1) := by decide +kernel
theorem dX10_drawn_20 : decode cX10_drawn 20 = .ok (.iastore, 1) := by decide +kernel
theorem dX10_drawn_21 : decode cX10_drawn 21 = .ok (.aload_n 0, 1) := by decide +kernel
theorem dX10_drawn_22 : decode cX10_drawn 22 = .ok (.getfield 9, 3) := by decide +kernel
theorem dX10_drawn_25 : decode cX10_drawn 25 = .ok (.bipush 18, 2) := by decide +kernel
theorem dX10_drawn_27 : decode cX10_drawn 27 = .ok (.iaload, 1) := by decide +kernel
theorem dX10_drawn_28 : decode cX10_drawn 28 = .ok (.bipush 8, 2) := by decide +kernel
theorem dX10_drawn_30 : decode cX10_drawn 30 = .ok (.iushr, 1) := by decide +kernel
theorem dX10_drawn_31 : decode cX10_drawn 31 = .ok (.iload_n 1, 1) := by decide +kernel
theorem dX10_drawn_32 : decode cX10_drawn 32 = .ok (.irem, 1) := by decide +kernel
theorem dX10_drawn_33 : decode cX10_drawn 33 = .ok (.ireturn, 1) := by decide +kernel
theorem dX10_nearer_0 : decode cX10_nearer 0 = .ok (.iload_n 0, 1) := by decide +kernel
theorem dX10_nearer_1 : decode cX10_nearer 1 = .ok (.ifCond .le 13, 3) := by decide +kernel
theorem dX10_nearer_4 : decode cX10_nearer 4 = .ok (.iconst 0, 1) := by decide +kernel
theorem dX10_nearer_5 : decode cX10_nearer 5 = .ok (.iload_n 0, 1) := by decide +kernel
theorem dX10_nearer_6 : decode cX10_nearer 6 = .ok (.iload_n 1, 1) := by decide +kernel
theorem dX10_nearer_7 : decode cX10_nearer 7 = .ok (.isub, 1) := by decide +kernel
theorem dX10_nearer_8 : decode cX10_nearer 8 = .ok (.invokestatic 76, 3) := by decide +kernel
theorem dX10_nearer_11 : decode cX10_nearer 11 = .ok (.goto 10, 3) := by decide +kernel
theorem dX10_nearer_14 : decode cX10_nearer 14 = .ok (.iconst 0, 1) := by decide +kernel
theorem dX10_nearer_15 : decode cX10_nearer 15 = .ok (.iload_n 0, 1) := by decide +kernel
theorem dX10_nearer_16 : decode cX10_nearer 16 = .ok (.iload_n 1, 1) := by decide +kernel
theorem dX10_nearer_17 : decode cX10_nearer 17 = .ok (.iadd, 1) := by decide +kernel
theorem dX10_nearer_18 : decode cX10_nearer 18 = .ok (.invokestatic 70, 3) := by decide +kernel
theorem dX10_nearer_21 : decode cX10_nearer 21 = .ok (.ireturn, 1) := by decide +kernel
theorem dX10_isStep_0 : decode cX10_isStep 0 = .ok (.aload_n 0, 1) := by decide +kernel
theorem dX10_isStep_1 : decode cX10_isStep 1 = .ok (.iload_n 1, 1) := by decide +kernel
theorem dX10_isStep_2 : decode cX10_isStep 2 = .ok (.invokevirtual 149, 3) := by decide +kernel
theorem dX10_isStep_5 : decode cX10_isStep 5 = .ok (.istore_n 2, 1) := by decide +kernel
theorem dX10_isStep_6 : decode cX10_isStep 6 = .ok (.iload_n 2, 1) := by decide +kernel
theorem dX10_isStep_7 : decode cX10_isStep 7 = .ok (.ifCond .le 28, 3) := by decide +kernel
theorem dX10_isStep_10 : decode cX10_isStep 10 = .ok (.aload_n 0, 1) := by decide +kernel
theorem dX10_isStep_11 : decode cX10_isStep 11 = .ok (.iload_n 1, 1) := by decide +kernel
theorem dX10_isStep_12 : decode cX10_isStep 12 = .ok (.iconst 2, 1) := by decide +kernel
theorem dX10_isStep_13 : decode cX10_isStep 13 = .ok (.invokevirtual 125, 3) := by decide +kernel
theorem dX10_isStep_16 : decode cX10_isStep 16 = .ok (.aload_n 0, 1) := by decide +kernel
theorem dX10_isStep_17 : decode cX10_isStep 17 = .ok (.getfield 9, 3) := by decide +kernel
theorem dX10_isStep_20 : decode cX10_isStep 20 = .ok (.bipush 12, 2) := by decide +kernel
theorem dX10_isStep_22 : decode cX10_isStep 22 = .ok (.iaload, 1) := by decide +kernel
theorem dX10_isStep_23 : decode cX10_isStep 23 = .ok (.isub, 1) := by decide +kernel
theorem dX10_isStep_24 : decode cX10_isStep 24 = .ok (.iconst 1, 1) := by decide +kernel
theorem dX10_isStep_25 : decode cX10_isStep 25 = .ok (.iadd, 1) := by decide +kernel
theorem dX10_isStep_26 : decode cX10_isStep 26 = .ok (.iload_n 2, 1) := by decide +kernel
theorem dX10_isStep_27 : decode cX10_isStep 27 = .ok (.irem, 1) := by decide +kernel
theorem dX10_isStep_28 : decode cX10_isStep 28 = .ok (.ifCond .ne 7, 3) := by decide +kernel
theorem dX10_isStep_31 : decode cX10_isStep 31 = .ok (.iconst 1, 1) := by decide +kernel
theorem dX10_isStep_32 : decode cX10_isStep 32 = .ok (.goto 4, 3) := by decide +kernel
theorem dX10_isStep_35 : decode cX10_isStep 35 = .ok (.iconst 0, 1) := by decide +kernel
theorem dX10_isStep_36 : decode cX10_isStep 36 = .ok (.ireturn, 1) := by decide +kernel
theorem dX10_goesOn_0 : decode cX10_goesOn 0 = .ok (.aload_n 0, 1) := by decide +kernel
theorem dX10_goesOn_1 : decode cX10_goesOn 1 = .ok (.getfield 9, 3) := by decide +kernel
theorem dX10_goesOn_4 : decode cX10_goesOn 4 = .ok (.iconst 0, 1) := by decide +kernel
theorem dX10_goesOn_5 : decode cX10_goesOn 5 = .ok (.iaload, 1) := by decide +kernel
theorem dX10_goesOn_6 : decode cX10_goesOn 6 = .ok (.istore_n 2, 1) := by decide +kernel
theorem dX10_goesOn_7 : decode cX10_goesOn 7 = .ok (.aload_n 0, 1) := by decide +kernel
theorem dX10_goesOn_8 : decode cX10_goesOn 8 = .ok (.getfield 9, 3) := by decide +kernel
theorem dX10_goesOn_11 : decode cX10_goesOn 11 = .ok (.iconst 0, 1) := by decide +kernel
theorem dX10_goesOn_12 : decode cX10_goesOn 12 = .ok (.bipush 99, 2) := by decide +kernel
theorem dX10_goesOn_14 : decode cX10_goesOn 14 = .ok (.iload_n 2, 1) := by decide +kernel
