theorem dX12_isNew_13 : decode cX12_isNew 13 = .ok (.istore_n 3, 1) := by decide +kernel
theorem dX12_isNew_14 : decode cX12_isNew 14 = .ok (.aload_n 0, 1) := by decide +kernel
theorem dX12_isNew_15 : decode cX12_isNew 15 = .ok (.getfield 59, 3) := by decide +kernel
theorem dX12_isNew_18 : decode cX12_isNew 18 = .ok (.iload_n 3, 1) := by decide +kernel
theorem dX12_isNew_19 : decode cX12_isNew 19 = .ok (.iaload, 1) := by decide +kernel
theorem dX12_isNew_20 : decode cX12_isNew 20 = .ok (.aload_n 0, 1) := by decide +kernel
theorem dX12_isNew_21 : decode cX12_isNew 21 = .ok (.getfield 436, 3) := by decide +kernel
theorem dX12_isNew_24 : decode cX12_isNew 24 = .ok (.if_icmp .ne 24, 3) := by decide +kernel
theorem dX12_isNew_27 : decode cX12_isNew 27 = .ok (.aload_n 0, 1) := by decide +kernel
theorem dX12_isNew_28 : decode cX12_isNew 28 = .ok (.getfield 55, 3) := by decide +kernel
theorem dX12_isNew_31 : decode cX12_isNew 31 = .ok (.iload_n 3, 1) := by decide +kernel
theorem dX12_isNew_32 : decode cX12_isNew 32 = .ok (.laload, 1) := by decide +kernel
theorem dX12_isNew_33 : decode cX12_isNew 33 = .ok (.lload_n 1, 1) := by decide +kernel
theorem dX12_isNew_34 : decode cX12_isNew 34 = .ok (.lcmp, 1) := by decide +kernel
theorem dX12_isNew_35 : decode cX12_isNew 35 = .ok (.ifCond .eq 13, 3) := by decide +kernel
theorem dX12_isNew_38 : decode cX12_isNew 38 = .ok (.iload_n 3, 1) := by decide +kernel
theorem dX12_isNew_39 : decode cX12_isNew 39 = .ok (.iconst 1, 1) := by decide +kernel
theorem dX12_isNew_40 : decode cX12_isNew 40 = .ok (.iadd, 1) := by decide +kernel
theorem dX12_isNew_41 : decode cX12_isNew 41 = .ok (.ldc 54, 2) := by decide +kernel
theorem dX12_isNew_43 : decode cX12_isNew 43 = .ok (.irem, 1) := by decide +kernel
theorem dX12_isNew_44 : decode cX12_isNew 44 = .ok (.istore_n 3, 1) := by decide +kernel
theorem dX12_isNew_45 : decode cX12_isNew 45 = .ok (.goto (-31), 3) := by decide +kernel
theorem dX12_isNew_48 : decode cX12_isNew 48 = .ok (.aload_n 0, 1) := by decide +kernel
theorem dX12_isNew_49 : decode cX12_isNew 49 = .ok (.getfield 59, 3) := by decide +kernel
theorem dX12_isNew_52 : decode cX12_isNew 52 = .ok (.iload_n 3, 1) := by decide +kernel
theorem dX12_isNew_53 : decode cX12_isNew 53 = .ok (.iaload, 1) := by decide +kernel
theorem dX12_isNew_54 : decode cX12_isNew 54 = .ok (.aload_n 0, 1) := by decide +kernel
theorem dX12_isNew_55 : decode cX12_isNew 55 = .ok (.getfield 436, 3) := by decide +kernel
theorem dX12_isNew_58 : decode cX12_isNew 58 = .ok (.if_icmp .ne 5, 3) := by decide +kernel
theorem dX12_isNew_61 : decode cX12_isNew 61 = .ok (.iconst 0, 1) := by decide +kernel
theorem dX12_isNew_62 : decode cX12_isNew 62 = .ok (.ireturn, 1) := by decide +kernel
theorem dX12_isNew_63 : decode cX12_isNew 63 = .ok (.aload_n 0, 1) := by decide +kernel
theorem dX12_isNew_64 : decode cX12_isNew 64 = .ok (.getfield 59, 3) := by decide +kernel
theorem dX12_isNew_67 : decode cX12_isNew 67 = .ok (.iload_n 3, 1) := by decide +kernel
theorem dX12_isNew_68 : decode cX12_isNew 68 = .ok (.aload_n 0, 1) := by decide +kernel
theorem dX12_isNew_69 : decode cX12_isNew 69 = .ok (.getfield 436, 3) := by decide +kernel
theorem dX12_isNew_72 : decode cX12_isNew 72 = .ok (.iastore, 1) := by decide +kernel
theorem dX12_isNew_73 : decode cX12_isNew 73 = .ok (.aload_n 0, 1) := by decide +kernel
theorem dX12_isNew_74 : decode cX12_isNew 74 = .ok (.getfield 55, 3) := by decide +kernel
theorem dX12_isNew_77 : decode cX12_isNew 77 = .ok (.iload_n 3, 1) := by decide +kernel
theorem dX12_isNew_78 : decode cX12_isNew 78 = .ok (.lload_n 1, 1) := by decide +kernel
theorem dX12_isNew_79 : decode cX12_isNew 79 = .ok (.lastore, 1) := by decide +kernel
theorem dX12_isNew_80 : decode cX12_isNew 80 = .ok (.iconst 1, 1) := by decide +kernel
theorem dX12_isNew_81 : decode cX12_isNew 81 = .ok (.ireturn, 1) := by decide +kernel
theorem dX12_lookAt_0 : decode cX12_lookAt 0 = .ok (.aload_n 0, 1) := by decide +kernel
theorem dX12_lookAt_1 : decode cX12_lookAt 1 = .ok (.iload_n 1, 1) := by decide +kernel
theorem dX12_lookAt_2 : decode cX12_lookAt 2 = .ok (.invokevirtual 302, 3) := by decide +kernel
theorem dX12_lookAt_5 : decode cX12_lookAt 5 = .ok (.lconst 0, 1) := by decide +kernel
theorem dX12_lookAt_6 : decode cX12_lookAt 6 = .ok (.lstore_n 2, 1) := by decide +kernel
theorem dX12_lookAt_7 : decode cX12_lookAt 7 = .ok (.iconst 0, 1) := by decide +kernel
theorem dX12_lookAt_8 : decode cX12_lookAt 8 = .ok (.istore 4, 2) := by decide +kernel
theorem dX12_lookAt_10 : decode cX12_lookAt 10 = .ok (.iload 4, 2) := by decide +kernel
theorem dX12_lookAt_12 : decode cX12_lookAt 12 = .ok (.aload_n 0, 1) := by decide +kernel
theorem dX12_lookAt_13 : decode cX12_lookAt 13 = .ok (.invokevirtual 253, 3) := by decide +kernel
theorem dX12_lookAt_16 : decode cX12_lookAt 16 = .ok (.if_icmp .ge 24, 3) := by decide +kernel
theorem dX12_lookAt_19 : decode cX12_lookAt 19 = .ok (.ldc2_w 439, 3) := by decide +kernel
theorem dX12_lookAt_22 : decode cX12_lookAt 22 = .ok (.lload_n 2, 1) := by decide +kernel
theorem dX12_lookAt_23 : decode cX12_lookAt 23 = .ok (.lmul, 1) := by decide +kernel
theorem dX12_lookAt_24 : decode cX12_lookAt 24 = .ok (.aload_n 0, 1) := by decide +kernel
theorem dX12_lookAt_25 : decode cX12_lookAt 25 = .ok (.getfield 33, 3) := by decide +kernel
theorem dX12_lookAt_28 : decode cX12_lookAt 28 = .ok (.iload 4, 2) := by decide +kernel
theorem dX12_lookAt_30 : decode cX12_lookAt 30 = .ok (.iaload, 1) := by decide +kernel
theorem dX12_lookAt_31 : decode cX12_lookAt 31 = .ok (.i2l, 1) := by decide +kernel
theorem dX12_lookAt_32 : decode cX12_lookAt 32 = .ok (.ladd, 1) := by decide +kernel
theorem dX12_lookAt_33 : decode cX12_lookAt 33 = .ok (.lstore_n 2, 1) := by decide +kernel
theorem dX12_lookAt_34 : decode cX12_lookAt 34 = .ok (.iinc 4 1, 3) := by decide +kernel
theorem dX12_lookAt_37 : decode cX12_lookAt 37 = .ok (.goto (-27), 3) := by decide +kernel
theorem dX12_lookAt_40 : decode cX12_lookAt 40 = .ok (.lload_n 2, 1) := by decide +kernel
theorem dX12_lookAt_41 : decode cX12_lookAt 41 = .ok (.lreturn, 1) := by decide +kernel
theorem dX12_orderAt_0 : decode cX12_orderAt 0 = .ok (.lconst 0, 1) := by decide +kernel
theorem dX12_orderAt_1 : decode cX12_orderAt 1 = .ok (.lstore_n 2, 1) := by decide +kernel
theorem dX12_orderAt_2 : decode cX12_orderAt 2 = .ok (.iconst 0, 1) := by decide +kernel
theorem dX12_orderAt_3 : decode cX12_orderAt 3 = .ok (.istore 4, 2) := by decide +kernel
theorem dX12_orderAt_5 : decode cX12_orderAt 5 = .ok (.iload 4, 2) := by decide +kernel
theorem dX12_orderAt_7 : decode cX12_orderAt 7 = .ok (.aload_n 0, 1) := by decide +kernel
theorem dX12_orderAt_8 : decode cX12_orderAt 8 = .ok (.invokevirtual 253, 3) := by decide +kernel
theorem dX12_orderAt_11 : decode cX12_orderAt 11 = .ok (.if_icmp .ge 27, 3) := by decide +kernel
theorem dX12_orderAt_14 : decode cX12_orderAt 14 = .ok (.ldc2_w 441, 3) := by decide +kernel
theorem dX12_orderAt_17 : decode cX12_orderAt 17 = .ok (.lload_n 2, 1) := by decide +kernel
theorem dX12_orderAt_18 : decode cX12_orderAt 18 = .ok (.lmul, 1) := by decide +kernel
theorem dX12_orderAt_19 : decode cX12_orderAt 19 = .ok (.aload_n 0, 1) := by decide +kernel
theorem dX12_orderAt_20 : decode cX12_orderAt 20 = .ok (.iload_n 1, 1) := by decide +kernel
theorem dX12_orderAt_21 : decode cX12_orderAt 21 = .ok (.iconst 0, 1) := by decide +kernel
theorem dX12_orderAt_22 : decode cX12_orderAt 22 = .ok (.iload 4, 2) := by decide +kernel
theorem dX12_orderAt_24 : decode cX12_orderAt 24 = .ok (.invokevirtual 264, 3) := by decide +kernel
theorem dX12_orderAt_27 : decode cX12_orderAt 27 = .ok (.iconst 2, 1) := by decide +kernel
theorem dX12_orderAt_28 : decode cX12_orderAt 28 = .ok (.idiv, 1) := by decide +kernel
theorem dX12_orderAt_29 : decode cX12_orderAt 29 = .ok (.i2l, 1) := by decide +kernel
theorem dX12_orderAt_30 : decode cX12_orderAt 30 = .ok (.ladd, 1) := by decide +kernel
theorem dX12_orderAt_31 : decode cX12_orderAt 31 = .ok (.lstore_n 2, 1) := by decide +kernel
theorem dX12_orderAt_32 : decode cX12_orderAt 32 = .ok (.iinc 4 1, 3) := by decide +kernel
theorem dX12_orderAt_35 : decode cX12_orderAt 35 = .ok (.goto (-30), 3) := by decide +kernel
theorem dX12_orderAt_38 : decode cX12_orderAt 38 = .ok (.lload_n 2, 1) := by decide +kernel
theorem dX12_orderAt_39 : decode cX12_orderAt 39 = .ok (.lreturn, 1) := by decide +kernel
theorem dX12_worthAsked_0 : decode cX12_worthAsked 0 = .ok (.aload_n 0, 1) := by decide +kernel
theorem dX12_worthAsked_1 : decode cX12_worthAsked 1 = .ok (.getfield 443, 3) := by decide +kernel
theorem dX12_worthAsked_4 : decode cX12_worthAsked 4 = .ok (.iconst 3, 1) := by decide +kernel
theorem dX12_worthAsked_5 : decode cX12_worthAsked 5 = .ok (.if_icmp .ne 11, 3) := by decide +kernel
theorem dX12_worthAsked_8 : decode cX12_worthAsked 8 = .ok (.aload_n 0, 1) := by decide +kernel
theorem dX12_worthAsked_9 : decode cX12_worthAsked 9 = .ok (.iload_n 1, 1) := by decide +kernel
theorem dX12_worthAsked_10 : decode cX12_worthAsked 10 = .ok (.invokevirtual 349, 3) := by decide +kernel
theorem dX12_worthAsked_13 : decode cX12_worthAsked 13 = .ok (.goto 29, 3) := by decide +kernel
theorem dX12_worthAsked_16 : decode cX12_worthAsked 16 = .ok (.aload_n 0, 1) := by decide +kernel
theorem dX12_worthAsked_17 : decode cX12_worthAsked 17 = .ok (.getfield 443, 3) := by decide +kernel
theorem dX12_worthAsked_20 : decode cX12_worthAsked 20 = .ok (.bipush 6, 2) := by decide +kernel
theorem dX12_worthAsked_22 : decode cX12_worthAsked 22 = .ok (.if_icmp .ne 11, 3) := by decide +kernel
theorem dX12_worthAsked_25 : decode cX12_worthAsked 25 = .ok (.aload_n 0, 1) := by decide +kernel
theorem dX12_worthAsked_26 : decode cX12_worthAsked 26 = .ok (.iload_n 1, 1) := by decide +kernel
theorem dX12_worthAsked_27 : decode cX12_worthAsked 27 = .ok (.invokevirtual 446, 3) := by decide +kernel
theorem dX12_worthAsked_30 : decode cX12_worthAsked 30 = .ok (.goto 12, 3) := by decide +kernel
theorem dX12_worthAsked_33 : decode cX12_worthAsked 33 = .ok (.aload_n 0, 1) := by decide +kernel
theorem dX12_worthAsked_34 : decode cX12_worthAsked 34 = .ok (.iload_n 1, 1) := by decide +kernel
theorem dX12_worthAsked_35 : decode cX12_worthAsked 35 = .ok (.aload_n 0, 1) := by decide +kernel
theorem dX12_worthAsked_36 : decode cX12_worthAsked 36 = .ok (.getfield 449, 3) := by decide +kernel
theorem dX12_worthAsked_39 : decode cX12_worthAsked 39 = .ok (.invokevirtual 355, 3) := by decide +kernel
theorem dX12_worthAsked_42 : decode cX12_worthAsked 42 = .ok (.ireturn, 1) := by decide +kernel
theorem dX12_sees_0 : decode cX12_sees 0 = .ok (.aload_n 0, 1) := by decide +kernel
theorem dX12_sees_1 : decode cX12_sees 1 = .ok (.getfield 443, 3) := by decide +kernel
theorem dX12_sees_4 : decode cX12_sees 4 = .ok (.tableswitch 316 0 13 #[72, 84, 112, 316, 275, 290, 316, 148, 316, 301, 184, 269, 221, 250], 72) := by decide +kernel
theorem dX12_sees_76 : decode cX12_sees 76 = .ok (.aload_n 0, 1) := by decide +kernel
theorem dX12_sees_77 : decode cX12_sees 77 = .ok (.dup, 1) := by decide +kernel
theorem dX12_sees_78 : decode cX12_sees 78 = .ok (.getfield 452, 3) := by decide +kernel
theorem dX12_sees_81 : decode cX12_sees 81 = .ok (.iconst 1, 1) := by decide +kernel
theorem dX12_sees_82 : decode cX12_sees 82 = .ok (.iadd, 1) := by decide +kernel
theorem dX12_sees_83 : decode cX12_sees 83 = .ok (.putfield 452, 3) := by decide +kernel
theorem dX12_sees_86 : decode cX12_sees 86 = .ok (.iconst 0, 1) := by decide +kernel
theorem dX12_sees_87 : decode cX12_sees 87 = .ok (.ireturn, 1) := by decide +kernel
theorem dX12_sees_88 : decode cX12_sees 88 = .ok (.aload_n 0, 1) := by decide +kernel
theorem dX12_sees_89 : decode cX12_sees 89 = .ok (.dup, 1) := by decide +kernel
theorem dX12_sees_90 : decode cX12_sees 90 = .ok (.getfield 452, 3) := by decide +kernel
theorem dX12_sees_93 : decode cX12_sees 93 = .ok (.aload_n 0, 1) := by decide +kernel
theorem dX12_sees_94 : decode cX12_sees 94 = .ok (.aload_n 0, 1) := by decide +kernel
theorem dX12_sees_95 : decode cX12_sees 95 = .ok (.iload_n 1, 1) := by decide +kernel
theorem dX12_sees_96 : decode cX12_sees 96 = .ok (.invokevirtual 455, 3) := by decide +kernel
theorem dX12_sees_99 : decode cX12_sees 99 = .ok (.invokevirtual 459, 3) := by decide +kernel
theorem dX12_sees_102 : decode cX12_sees 102 = .ok (.ifCond .eq 7, 3) := by decide +kernel
theorem dX12_sees_105 : decode cX12_sees 105 = .ok (.iconst 1, 1) := by decide +kernel
theorem dX12_sees_106 : decode cX12_sees 106 = .ok (.goto 4, 3) := by decide +kernel
theorem dX12_sees_109 : decode cX12_sees 109 = .ok (.iconst 0, 1) := by decide +kernel
theorem dX12_sees_110 : decode cX12_sees 110 = .ok (.iadd, 1) := by decide +kernel
theorem dX12_sees_111 : decode cX12_sees 111 = .ok (.putfield 452, 3) := by decide +kernel
theorem dX12_sees_114 : decode cX12_sees 114 = .ok (.iconst 0, 1) := by decide +kernel
theorem dX12_sees_115 : decode cX12_sees 115 = .ok (.ireturn, 1) := by decide +kernel
theorem dX12_sees_116 : decode cX12_sees 116 = .ok (.aload_n 0, 1) := by decide +kernel
theorem dX12_sees_117 : decode cX12_sees 117 = .ok (.dup, 1) := by decide +kernel
theorem dX12_sees_118 : decode cX12_sees 118 = .ok (.getfield 452, 3) := by decide +kernel
theorem dX12_sees_121 : decode cX12_sees 121 = .ok (.aload_n 0, 1) := by decide +kernel
theorem dX12_sees_122 : decode cX12_sees 122 = .ok (.iload_n 1, 1) := by decide +kernel
theorem dX12_sees_123 : decode cX12_sees 123 = .ok (.invokevirtual 352, 3) := by decide +kernel
theorem dX12_sees_126 : decode cX12_sees 126 = .ok (.ifCond .eq 19, 3) := by decide +kernel
theorem dX12_sees_129 : decode cX12_sees 129 = .ok (.aload_n 0, 1) := by decide +kernel
theorem dX12_sees_130 : decode cX12_sees 130 = .ok (.aload_n 0, 1) := by decide +kernel
theorem dX12_sees_131 : decode cX12_sees 131 = .ok (.iload_n 1, 1) := by decide +kernel
theorem dX12_sees_132 : decode cX12_sees 132 = .ok (.invokevirtual 455, 3) := by decide +kernel
theorem dX12_sees_135 : decode cX12_sees 135 = .ok (.invokevirtual 459, 3) := by decide +kernel
theorem dX12_sees_138 : decode cX12_sees 138 = .ok (.ifCond .eq 7, 3) := by decide +kernel
theorem dX12_sees_141 : decode cX12_sees 141 = .ok (.iconst 1, 1) := by decide +kernel
theorem dX12_sees_142 : decode cX12_sees 142 = .ok (.goto 4, 3) := by decide +kernel
theorem dX12_sees_145 : decode cX12_sees 145 = .ok (.iconst 0, 1) := by decide +kernel
theorem dX12_sees_146 : decode cX12_sees 146 = .ok (.iadd, 1) := by decide +kernel
theorem dX12_sees_147 : decode cX12_sees 147 = .ok (.putfield 452, 3) := by decide +kernel
theorem dX12_sees_150 : decode cX12_sees 150 = .ok (.iconst 0, 1) := by decide +kernel
theorem dX12_sees_151 : decode cX12_sees 151 = .ok (.ireturn, 1) := by decide +kernel
theorem dX12_sees_152 : decode cX12_sees 152 = .ok (.aload_n 0, 1) := by decide +kernel
theorem dX12_sees_153 : decode cX12_sees 153 = .ok (.dup, 1) := by decide +kernel
theorem dX12_sees_154 : decode cX12_sees 154 = .ok (.getfield 452, 3) := by decide +kernel
theorem dX12_sees_157 : decode cX12_sees 157 = .ok (.aload_n 0, 1) := by decide +kernel
theorem dX12_sees_158 : decode cX12_sees 158 = .ok (.iload_n 1, 1) := by decide +kernel
theorem dX12_sees_159 : decode cX12_sees 159 = .ok (.invokevirtual 462, 3) := by decide +kernel
theorem dX12_sees_162 : decode cX12_sees 162 = .ok (.ifCond .eq 19, 3) := by decide +kernel
theorem dX12_sees_165 : decode cX12_sees 165 = .ok (.aload_n 0, 1) := by decide +kernel
theorem dX12_sees_166 : decode cX12_sees 166 = .ok (.aload_n 0, 1) := by decide +kernel
theorem dX12_sees_167 : decode cX12_sees 167 = .ok (.iload_n 1, 1) := by decide +kernel
theorem dX12_sees_168 : decode cX12_sees 168 = .ok (.invokevirtual 455, 3) := by decide +kernel
theorem dX12_sees_171 : decode cX12_sees 171 = .ok (.invokevirtual 459, 3) := by decide +kernel
theorem dX12_sees_174 : decode cX12_sees 174 = .ok (.ifCond .eq 7, 3) := by decide +kernel
theorem dX12_sees_177 : decode cX12_sees 177 = .ok (.iconst 1, 1) := by decide +kernel
theorem dX12_sees_178 : decode cX12_sees 178 = .ok (.goto 4, 3) := by decide +kernel
theorem dX12_sees_181 : decode cX12_sees 181 = .ok (.iconst 0, 1) := by decide +kernel
theorem dX12_sees_182 : decode cX12_sees 182 = .ok (.iadd, 1) := by decide +kernel
theorem dX12_sees_183 : decode cX12_sees 183 = .ok (.putfield 452, 3) := by decide +kernel
theorem dX12_sees_186 : decode cX12_sees 186 = .ok (.iconst 0, 1) := by decide +kernel
theorem dX12_sees_187 : decode cX12_sees 187 = .ok (.ireturn, 1) := by decide +kernel
theorem dX12_sees_188 : decode cX12_sees 188 = .ok (.aload_n 0, 1) := by decide +kernel
theorem dX12_sees_189 : decode cX12_sees 189 = .ok (.dup, 1) := by decide +kernel
theorem dX12_sees_190 : decode cX12_sees 190 = .ok (.getfield 452, 3) := by decide +kernel
theorem dX12_sees_193 : decode cX12_sees 193 = .ok (.aload_n 0, 1) := by decide +kernel
theorem dX12_sees_194 : decode cX12_sees 194 = .ok (.iload_n 1, 1) := by decide +kernel
theorem dX12_sees_195 : decode cX12_sees 195 = .ok (.invokevirtual 256, 3) := by decide +kernel
theorem dX12_sees_198 : decode cX12_sees 198 = .ok (.iconst 2, 1) := by decide +kernel
theorem dX12_sees_199 : decode cX12_sees 199 = .ok (.if_icmp .ge 19, 3) := by decide +kernel
theorem dX12_sees_202 : decode cX12_sees 202 = .ok (.aload_n 0, 1) := by decide +kernel
theorem dX12_sees_203 : decode cX12_sees 203 = .ok (.aload_n 0, 1) := by decide +kernel
theorem dX12_sees_204 : decode cX12_sees 204 = .ok (.iload_n 1, 1) := by decide +kernel
theorem dX12_sees_205 : decode cX12_sees 205 = .ok (.invokevirtual 465, 3) := by decide +kernel
theorem dX12_sees_208 : decode cX12_sees 208 = .ok (.invokevirtual 459, 3) := by decide +kernel
theorem dX12_sees_211 : decode cX12_sees 211 = .ok (.ifCond .eq 7, 3) := by decide +kernel
theorem dX12_sees_214 : decode cX12_sees 214 = .ok (.iconst 1, 1) := by decide +kernel
theorem dX12_sees_215 : decode cX12_sees 215 = .ok (.goto 4, 3) := by decide +kernel
theorem dX12_sees_218 : decode cX12_sees 218 = .ok (.iconst 0, 1) := by decide +kernel
theorem dX12_sees_219 : decode cX12_sees 219 = .ok (.iadd, 1) := by decide +kernel
theorem dX12_sees_220 : decode cX12_sees 220 = .ok (.putfield 452, 3) := by decide +kernel
theorem dX12_sees_223 : decode cX12_sees 223 = .ok (.iconst 0, 1) := by decide +kernel
theorem dX12_sees_224 : decode cX12_sees 224 = .ok (.ireturn, 1) := by decide +kernel
theorem dX12_sees_225 : decode cX12_sees 225 = .ok (.aload_n 0, 1) := by decide +kernel
theorem dX12_sees_226 : decode cX12_sees 226 = .ok (.dup, 1) := by decide +kernel
theorem dX12_sees_227 : decode cX12_sees 227 = .ok (.getfield 452, 3) := by decide +kernel
theorem dX12_sees_230 : decode cX12_sees 230 = .ok (.aload_n 0, 1) := by decide +kernel
theorem dX12_sees_231 : decode cX12_sees 231 = .ok (.aload_n 0, 1) := by decide +kernel
theorem dX12_sees_232 : decode cX12_sees 232 = .ok (.iload_n 1, 1) := by decide +kernel
theorem dX12_sees_233 : decode cX12_sees 233 = .ok (.invokevirtual 468, 3) := by decide +kernel
theorem dX12_sees_236 : decode cX12_sees 236 = .ok (.i2l, 1) := by decide +kernel
theorem dX12_sees_237 : decode cX12_sees 237 = .ok (.invokevirtual 459, 3) := by decide +kernel
theorem dX12_sees_240 : decode cX12_sees 240 = .ok (.ifCond .eq 7, 3) := by decide +kernel
theorem dX12_sees_243 : decode cX12_sees 243 = .ok (.iconst 1, 1) := by decide +kernel
theorem dX12_sees_244 : decode cX12_sees 244 = .ok (.goto 4, 3) := by decide +kernel
theorem dX12_sees_247 : decode cX12_sees 247 = .ok (.iconst 0, 1) := by decide +kernel
theorem dX12_sees_248 : decode cX12_sees 248 = .ok (.iadd, 1) := by decide +kernel
theorem dX12_sees_249 : decode cX12_sees 249 = .ok (.putfield 452, 3) := by decide +kernel
theorem dX12_sees_252 : decode cX12_sees 252 = .ok (.iconst 0, 1) := by decide +kernel
theorem dX12_sees_253 : decode cX12_sees 253 = .ok (.ireturn, 1) := by decide +kernel
theorem dX12_sees_254 : decode cX12_sees 254 = .ok (.aload_n 0, 1) := by decide +kernel
theorem dX12_sees_255 : decode cX12_sees 255 = .ok (.iload_n 1, 1) := by decide +kernel
theorem dX12_sees_256 : decode cX12_sees 256 = .ok (.aload_n 0, 1) := by decide +kernel
theorem dX12_sees_257 : decode cX12_sees 257 = .ok (.getfield 449, 3) := by decide +kernel
theorem dX12_sees_260 : decode cX12_sees 260 = .ok (.invokevirtual 471, 3) := by decide +kernel
theorem dX12_sees_263 : decode cX12_sees 263 = .ok (.ifCond .eq 8, 3) := by decide +kernel
theorem dX12_sees_266 : decode cX12_sees 266 = .ok (.aload_n 0, 1) := by decide +kernel
theorem dX12_sees_267 : decode cX12_sees 267 = .ok (.iload_n 1, 1) := by decide +kernel
theorem dX12_sees_268 : decode cX12_sees 268 = .ok (.invokevirtual 474, 3) := by decide +kernel
theorem dX12_sees_271 : decode cX12_sees 271 = .ok (.iconst 0, 1) := by decide +kernel
theorem dX12_sees_272 : decode cX12_sees 272 = .ok (.ireturn, 1) := by decide +kernel
theorem dX12_sees_273 : decode cX12_sees 273 = .ok (.aload_n 0, 1) := by decide +kernel
theorem dX12_sees_274 : decode cX12_sees 274 = .ok (.iload_n 1, 1) := by decide +kernel
theorem dX12_sees_275 : decode cX12_sees 275 = .ok (.invokevirtual 477, 3) := by decide +kernel
theorem dX12_sees_278 : decode cX12_sees 278 = .ok (.ireturn, 1) := by decide +kernel
theorem dX12_sees_279 : decode cX12_sees 279 = .ok (.aload_n 0, 1) := by decide +kernel
theorem dX12_sees_280 : decode cX12_sees 280 = .ok (.iload_n 1, 1) := by decide +kernel
theorem dX12_sees_281 : decode cX12_sees 281 = .ok (.aload_n 0, 1) := by decide +kernel
theorem dX12_sees_282 : decode cX12_sees 282 = .ok (.iload_n 1, 1) := by decide +kernel
theorem dX12_sees_283 : decode cX12_sees 283 = .ok (.aload_n 0, 1) := by decide +kernel
theorem dX12_sees_284 : decode cX12_sees 284 = .ok (.getfield 449, 3) := by decide +kernel
theorem dX12_sees_287 : decode cX12_sees 287 = .ok (.invokevirtual 471, 3) := by decide +kernel
theorem dX12_sees_290 : decode cX12_sees 290 = .ok (.invokevirtual 480, 3) := by decide +kernel
theorem dX12_sees_293 : decode cX12_sees 293 = .ok (.ireturn, 1) := by decide +kernel
theorem dX12_sees_294 : decode cX12_sees 294 = .ok (.aload_n 0, 1) := by decide +kernel
theorem dX12_sees_295 : decode cX12_sees 295 = .ok (.iload_n 1, 1) := by decide +kernel
theorem dX12_sees_296 : decode cX12_sees 296 = .ok (.aload_n 0, 1) := by decide +kernel
theorem dX12_sees_297 : decode cX12_sees 297 = .ok (.iload_n 1, 1) := by decide +kernel
theorem dX12_sees_298 : decode cX12_sees 298 = .ok (.invokevirtual 352, 3) := by decide +kernel
theorem dX12_sees_301 : decode cX12_sees 301 = .ok (.invokevirtual 480, 3) := by decide +kernel
theorem dX12_sees_304 : decode cX12_sees 304 = .ok (.ireturn, 1) := by decide +kernel
theorem dX12_sees_305 : decode cX12_sees 305 = .ok (.aload_n 0, 1) := by decide +kernel
theorem dX12_sees_306 : decode cX12_sees 306 = .ok (.iload_n 1, 1) := by decide +kernel
theorem dX12_sees_307 : decode cX12_sees 307 = .ok (.aload_n 0, 1) := by decide +kernel
theorem dX12_sees_308 : decode cX12_sees 308 = .ok (.iload_n 1, 1) := by decide +kernel
theorem dX12_sees_309 : decode cX12_sees 309 = .ok (.aload_n 0, 1) := by decide +kernel
theorem dX12_sees_310 : decode cX12_sees 310 = .ok (.getfield 449, 3) := by decide +kernel
theorem dX12_sees_313 : decode cX12_sees 313 = .ok (.invokevirtual 484, 3) := by decide +kernel
theorem dX12_sees_316 : decode cX12_sees 316 = .ok (.invokevirtual 480, 3) := by decide +kernel
theorem dX12_sees_319 : decode cX12_sees 319 = .ok (.ireturn, 1) := by decide +kernel
theorem dX12_sees_320 : decode cX12_sees 320 = .ok (.aload_n 0, 1) := by decide +kernel
theorem dX12_sees_321 : decode cX12_sees 321 = .ok (.iload_n 1, 1) := by decide +kernel
theorem dX12_sees_322 : decode cX12_sees 322 = .ok (.invokevirtual 487, 3) := by decide +kernel
theorem dX12_sees_325 : decode cX12_sees 325 = .ok (.istore_n 2, 1) := by decide +kernel
theorem dX12_sees_326 : decode cX12_sees 326 = .ok (.iload_n 2, 1) := by decide +kernel
theorem dX12_sees_327 : decode cX12_sees 327 = .ok (.aload_n 0, 1) := by decide +kernel
theorem dX12_sees_328 : decode cX12_sees 328 = .ok (.getfield 425, 3) := by decide +kernel
theorem dX12_sees_331 : decode cX12_sees 331 = .ok (.if_icmp .le 9, 3) := by decide +kernel
theorem dX12_sees_334 : decode cX12_sees 334 = .ok (.aload_n 0, 1) := by decide +kernel
theorem dX12_sees_335 : decode cX12_sees 335 = .ok (.iload_n 1, 1) := by decide +kernel
theorem dX12_sees_336 : decode cX12_sees 336 = .ok (.iload_n 2, 1) := by decide +kernel
theorem dX12_sees_337 : decode cX12_sees 337 = .ok (.invokevirtual 490, 3) := by decide +kernel
theorem dX12_sees_340 : decode cX12_sees 340 = .ok (.iconst 0, 1) := by decide +kernel
theorem dX12_sees_341 : decode cX12_sees 341 = .ok (.ireturn, 1) := by decide +kernel
theorem dX12_found_0 : decode cX12_found 0 = .ok (.iload_n 2, 1) := by decide +kernel
theorem dX12_found_1 : decode cX12_found 1 = .ok (.ifCond .eq 14, 3) := by decide +kernel
theorem dX12_found_4 : decode cX12_found 4 = .ok (.aload_n 0, 1) := by decide +kernel
theorem dX12_found_5 : decode cX12_found 5 = .ok (.iload_n 1, 1) := by decide +kernel
theorem dX12_found_6 : decode cX12_found 6 = .ok (.iload_n 1, 1) := by decide +kernel
theorem dX12_found_7 : decode cX12_found 7 = .ok (.aload_n 0, 1) := by decide +kernel
theorem dX12_found_8 : decode cX12_found 8 = .ok (.getfield 419, 3) := by decide +kernel
theorem dX12_found_11 : decode cX12_found 11 = .ok (.isub, 1) := by decide +kernel
theorem dX12_found_12 : decode cX12_found 12 = .ok (.invokevirtual 490, 3) := by decide +kernel
theorem dX12_found_15 : decode cX12_found 15 = .ok (.iload_n 2, 1) := by decide +kernel
theorem dX12_found_16 : decode cX12_found 16 = .ok (.ireturn, 1) := by decide +kernel
theorem dX12_seesMade_0 : decode cX12_seesMade 0 = .ok (.aload_n 0, 1) := by decide +kernel
theorem dX12_seesMade_1 : decode cX12_seesMade 1 = .ok (.iload_n 1, 1) := by decide +kernel
theorem dX12_seesMade_2 : decode cX12_seesMade 2 = .ok (.aload_n 0, 1) := by decide +kernel
theorem dX12_seesMade_3 : decode cX12_seesMade 3 = .ok (.getfield 449, 3) := by decide +kernel
theorem dX12_seesMade_6 : decode cX12_seesMade 6 = .ok (.invokevirtual 493, 3) := by decide +kernel
theorem dX12_seesMade_9 : decode cX12_seesMade 9 = .ok (.ifCond .ne 5, 3) := by decide +kernel
theorem dX12_seesMade_12 : decode cX12_seesMade 12 = .ok (.iconst 0, 1) := by decide +kernel
theorem dX12_seesMade_13 : decode cX12_seesMade 13 = .ok (.ireturn, 1) := by decide +kernel
theorem dX12_seesMade_14 : decode cX12_seesMade 14 = .ok (.aload_n 0, 1) := by decide +kernel
theorem dX12_seesMade_15 : decode cX12_seesMade 15 = .ok (.getfield 452, 3) := by decide +kernel
theorem dX12_seesMade_18 : decode cX12_seesMade 18 = .ok (.ifCond .ne 14, 3) := by decide +kernel
theorem dX12_seesMade_21 : decode cX12_seesMade 21 = .ok (.aload_n 0, 1) := by decide +kernel
theorem dX12_seesMade_22 : decode cX12_seesMade 22 = .ok (.iload_n 1, 1) := by decide +kernel
theorem dX12_seesMade_23 : decode cX12_seesMade 23 = .ok (.iload_n 1, 1) := by decide +kernel
theorem dX12_seesMade_24 : decode cX12_seesMade 24 = .ok (.aload_n 0, 1) := by decide +kernel
theorem dX12_seesMade_25 : decode cX12_seesMade 25 = .ok (.getfield 419, 3) := by decide +kernel
theorem dX12_seesMade_28 : decode cX12_seesMade 28 = .ok (.isub, 1) := by decide +kernel
theorem dX12_seesMade_29 : decode cX12_seesMade 29 = .ok (.invokevirtual 490, 3) := by decide +kernel
theorem dX12_seesMade_32 : decode cX12_seesMade 32 = .ok (.aload_n 0, 1) := by decide +kernel
theorem dX12_seesMade_33 : decode cX12_seesMade 33 = .ok (.dup, 1) := by decide +kernel
theorem dX12_seesMade_34 : decode cX12_seesMade 34 = .ok (.getfield 452, 3) := by decide +kernel
theorem dX12_seesMade_37 : decode cX12_seesMade 37 = .ok (.iconst 1, 1) := by decide +kernel
theorem dX12_seesMade_38 : decode cX12_seesMade 38 = .ok (.iadd, 1) := by decide +kernel
theorem dX12_seesMade_39 : decode cX12_seesMade 39 = .ok (.putfield 452, 3) := by decide +kernel
theorem dX12_seesMade_42 : decode cX12_seesMade 42 = .ok (.iconst 0, 1) := by decide +kernel
theorem dX12_seesMade_43 : decode cX12_seesMade 43 = .ok (.ireturn, 1) := by decide +kernel
theorem dX12_asksAll_0 : decode cX12_asksAll 0 = .ok (.aload_n 0, 1) := by decide +kernel
theorem dX12_asksAll_1 : decode cX12_asksAll 1 = .ok (.iload_n 1, 1) := by decide +kernel
theorem dX12_asksAll_2 : decode cX12_asksAll 2 = .ok (.putfield 443, 3) := by decide +kernel
theorem dX12_asksAll_5 : decode cX12_asksAll 5 = .ok (.aload_n 0, 1) := by decide +kernel
theorem dX12_asksAll_6 : decode cX12_asksAll 6 = .ok (.iload_n 2, 1) := by decide +kernel
theorem dX12_asksAll_7 : decode cX12_asksAll 7 = .ok (.putfield 419, 3) := by decide +kernel
theorem dX12_asksAll_10 : decode cX12_asksAll 10 = .ok (.aload_n 0, 1) := by decide +kernel
theorem dX12_asksAll_11 : decode cX12_asksAll 11 = .ok (.iconst 0, 1) := by decide +kernel
theorem dX12_asksAll_12 : decode cX12_asksAll 12 = .ok (.putfield 452, 3) := by decide +kernel
theorem dX12_asksAll_15 : decode cX12_asksAll 15 = .ok (.aload_n 0, 1) := by decide +kernel
theorem dX12_asksAll_16 : decode cX12_asksAll 16 = .ok (.iload_n 1, 1) := by decide +kernel
theorem dX12_asksAll_17 : decode cX12_asksAll 17 = .ok (.iconst 3, 1) := by decide +kernel
theorem dX12_asksAll_18 : decode cX12_asksAll 18 = .ok (.if_icmp .eq 15, 3) := by decide +kernel
theorem dX12_asksAll_21 : decode cX12_asksAll 21 = .ok (.iload_n 1, 1) := by decide +kernel
theorem dX12_asksAll_22 : decode cX12_asksAll 22 = .ok (.bipush 6, 2) := by decide +kernel
theorem dX12_asksAll_24 : decode cX12_asksAll 24 = .ok (.if_icmp .eq 9, 3) := by decide +kernel
theorem dX12_asksAll_27 : decode cX12_asksAll 27 = .ok (.iload_n 1, 1) := by decide +kernel
theorem dX12_asksAll_28 : decode cX12_asksAll 28 = .ok (.bipush 8, 2) := by decide +kernel
theorem dX12_asksAll_30 : decode cX12_asksAll 30 = .ok (.if_icmp .ne 9, 3) := by decide +kernel
theorem dX12_asksAll_33 : decode cX12_asksAll 33 = .ok (.ldc_w 496, 3) := by decide +kernel
theorem dX12_asksAll_36 : decode cX12_asksAll 36 = .ok (.goto 4, 3) := by decide +kernel
theorem dX12_asksAll_39 : decode cX12_asksAll 39 = .ok (.iconst (-1), 1) := by decide +kernel
theorem dX12_asksAll_40 : decode cX12_asksAll 40 = .ok (.putfield 425, 3) := by decide +kernel
theorem dX12_asksAll_43 : decode cX12_asksAll 43 = .ok (.aload_n 0, 1) := by decide +kernel
theorem dX12_asksAll_44 : decode cX12_asksAll 44 = .ok (.iconst 0, 1) := by decide +kernel
theorem dX12_asksAll_45 : decode cX12_asksAll 45 = .ok (.putfield 428, 3) := by decide +kernel
theorem dX12_asksAll_48 : decode cX12_asksAll 48 = .ok (.aload_n 0, 1) := by decide +kernel
theorem dX12_asksAll_49 : decode cX12_asksAll 49 = .ok (.dup, 1) := by decide +kernel
theorem dX12_asksAll_50 : decode cX12_asksAll 50 = .ok (.getfield 436, 3) := by decide +kernel
theorem dX12_asksAll_53 : decode cX12_asksAll 53 = .ok (.iconst 1, 1) := by decide +kernel
theorem dX12_asksAll_54 : decode cX12_asksAll 54 = .ok (.iadd, 1) := by decide +kernel
theorem dX12_asksAll_55 : decode cX12_asksAll 55 = .ok (.putfield 436, 3) := by decide +kernel
theorem dX12_asksAll_58 : decode cX12_asksAll 58 = .ok (.iconst 0, 1) := by decide +kernel
theorem dX12_asksAll_59 : decode cX12_asksAll 59 = .ok (.istore 4, 2) := by decide +kernel
theorem dX12_asksAll_61 : decode cX12_asksAll 61 = .ok (.iload 4, 2) := by decide +kernel
theorem dX12_asksAll_63 : decode cX12_asksAll 63 = .ok (.iload_n 3, 1) := by decide +kernel
theorem dX12_asksAll_64 : decode cX12_asksAll 64 = .ok (.if_icmp .gt 20, 3) := by decide +kernel
theorem dX12_asksAll_67 : decode cX12_asksAll 67 = .ok (.aload_n 0, 1) := by decide +kernel
theorem dX12_asksAll_68 : decode cX12_asksAll 68 = .ok (.iload_n 2, 1) := by decide +kernel
theorem dX12_asksAll_69 : decode cX12_asksAll 69 = .ok (.iload 4, 2) := by decide +kernel
theorem dX12_asksAll_71 : decode cX12_asksAll 71 = .ok (.invokevirtual 422, 3) := by decide +kernel
theorem dX12_asksAll_74 : decode cX12_asksAll 74 = .ok (.ifCond .eq 4, 3) := by decide +kernel
theorem dX12_asksAll_77 : decode cX12_asksAll 77 = .ok (.return_, 1) := by decide +kernel
theorem dX12_asksAll_78 : decode cX12_asksAll 78 = .ok (.iinc 4 1, 3) := by decide +kernel
theorem dX12_asksAll_81 : decode cX12_asksAll 81 = .ok (.goto (-20), 3) := by decide +kernel
theorem dX12_asksAll_84 : decode cX12_asksAll 84 = .ok (.return_, 1) := by decide +kernel
theorem dX12_isMore_0 : decode cX12_isMore 0 = .ok (.iload_n 0, 1) := by decide +kernel
theorem dX12_isMore_1 : decode cX12_isMore 1 = .ok (.i2l, 1) := by decide +kernel
theorem dX12_isMore_2 : decode cX12_isMore 2 = .ok (.lconst 0, 1) := by decide +kernel
theorem dX12_isMore_3 : decode cX12_isMore 3 = .ok (.ldc2_w 497, 3) := by decide +kernel
theorem dX12_isMore_6 : decode cX12_isMore 6 = .ok (.invokestatic 138, 3) := by decide +kernel
theorem dX12_isMore_9 : decode cX12_isMore 9 = .ok (.ireturn, 1) := by decide +kernel
theorem dX12_rows_0 : decode cX12_rows 0 = .ok (.aload_n 0, 1) := by decide +kernel
theorem dX12_rows_1 : decode cX12_rows 1 = .ok (.iconst 0, 1) := by decide +kernel
theorem dX12_rows_2 : decode cX12_rows 2 = .ok (.putfield 77, 3) := by decide +kernel
theorem dX12_rows_5 : decode cX12_rows 5 = .ok (.iload_n 1, 1) := by decide +kernel
theorem dX12_rows_6 : decode cX12_rows 6 = .ok (.invokestatic 499, 3) := by decide +kernel
theorem dX12_rows_9 : decode cX12_rows 9 = .ok (.ifCond .ne 9, 3) := by decide +kernel
theorem dX12_rows_12 : decode cX12_rows 12 = .ok (.aload_n 0, 1) := by decide +kernel
theorem dX12_rows_13 : decode cX12_rows 13 = .ok (.iconst 1, 1) := by decide +kernel
theorem dX12_rows_14 : decode cX12_rows 14 = .ok (.invokevirtual 244, 3) := by decide +kernel
theorem dX12_rows_17 : decode cX12_rows 17 = .ok (.ireturn, 1) := by decide +kernel
theorem dX12_rows_18 : decode cX12_rows 18 = .ok (.aload_n 0, 1) := by decide +kernel
theorem dX12_rows_19 : decode cX12_rows 19 = .ok (.iconst 0, 1) := by decide +kernel
theorem dX12_rows_20 : decode cX12_rows 20 = .ok (.putfield 443, 3) := by decide +kernel
theorem dX12_rows_23 : decode cX12_rows 23 = .ok (.aload_n 0, 1) := by decide +kernel
theorem dX12_rows_24 : decode cX12_rows 24 = .ok (.iconst 0, 1) := by decide +kernel
theorem dX12_rows_25 : decode cX12_rows 25 = .ok (.putfield 452, 3) := by decide +kernel
theorem dX12_rows_28 : decode cX12_rows 28 = .ok (.aload_n 0, 1) := by decide +kernel
theorem dX12_rows_29 : decode cX12_rows 29 = .ok (.aload_n 0, 1) := by decide +kernel
theorem dX12_rows_30 : decode cX12_rows 30 = .ok (.invokevirtual 343, 3) := by decide +kernel
theorem dX12_rows_33 : decode cX12_rows 33 = .ok (.putfield 419, 3) := by decide +kernel
theorem dX12_rows_36 : decode cX12_rows 36 = .ok (.aload_n 0, 1) := by decide +kernel
theorem dX12_rows_37 : decode cX12_rows 37 = .ok (.aload_n 0, 1) := by decide +kernel
theorem dX12_rows_38 : decode cX12_rows 38 = .ok (.getfield 419, 3) := by decide +kernel
theorem dX12_rows_41 : decode cX12_rows 41 = .ok (.iload_n 1, 1) := by decide +kernel
theorem dX12_rows_42 : decode cX12_rows 42 = .ok (.invokevirtual 422, 3) := by decide +kernel
theorem dX12_rows_45 : decode cX12_rows 45 = .ok (.pop, 1) := by decide +kernel
theorem dX12_rows_46 : decode cX12_rows 46 = .ok (.aload_n 0, 1) := by decide +kernel
theorem dX12_rows_47 : decode cX12_rows 47 = .ok (.getfield 452, 3) := by decide +kernel
theorem dX12_rows_50 : decode cX12_rows 50 = .ok (.ireturn, 1) := by decide +kernel
theorem dX12_manyBy_0 : decode cX12_manyBy 0 = .ok (.aload_n 0, 1) := by decide +kernel
theorem dX12_manyBy_1 : decode cX12_manyBy 1 = .ok (.iconst 0, 1) := by decide +kernel
theorem dX12_manyBy_2 : decode cX12_manyBy 2 = .ok (.putfield 77, 3) := by decide +kernel
theorem dX12_manyBy_5 : decode cX12_manyBy 5 = .ok (.iload_n 2, 1) := by decide +kernel
theorem dX12_manyBy_6 : decode cX12_manyBy 6 = .ok (.invokestatic 499, 3) := by decide +kernel
theorem dX12_manyBy_9 : decode cX12_manyBy 9 = .ok (.ifCond .ne 9, 3) := by decide +kernel
theorem dX12_manyBy_12 : decode cX12_manyBy 12 = .ok (.aload_n 0, 1) := by decide +kernel
theorem dX12_manyBy_13 : decode cX12_manyBy 13 = .ok (.iconst 1, 1) := by decide +kernel
theorem dX12_manyBy_14 : decode cX12_manyBy 14 = .ok (.invokevirtual 244, 3) := by decide +kernel
theorem dX12_manyBy_17 : decode cX12_manyBy 17 = .ok (.ireturn, 1) := by decide +kernel
theorem dX12_manyBy_18 : decode cX12_manyBy 18 = .ok (.aload_n 0, 1) := by decide +kernel
theorem dX12_manyBy_19 : decode cX12_manyBy 19 = .ok (.iload_n 1, 1) := by decide +kernel
theorem dX12_manyBy_20 : decode cX12_manyBy 20 = .ok (.aload_n 0, 1) := by decide +kernel
theorem dX12_manyBy_21 : decode cX12_manyBy 21 = .ok (.invokevirtual 343, 3) := by decide +kernel
theorem dX12_manyBy_24 : decode cX12_manyBy 24 = .ok (.iload_n 2, 1) := by decide +kernel
theorem dX12_manyBy_25 : decode cX12_manyBy 25 = .ok (.invokevirtual 502, 3) := by decide +kernel
theorem dX12_manyBy_28 : decode cX12_manyBy 28 = .ok (.aload_n 0, 1) := by decide +kernel
theorem dX12_manyBy_29 : decode cX12_manyBy 29 = .ok (.getfield 452, 3) := by decide +kernel
theorem dX12_manyBy_32 : decode cX12_manyBy 32 = .ok (.ireturn, 1) := by decide +kernel
theorem dX12_looks_0 : decode cX12_looks 0 = .ok (.aload_n 0, 1) := by decide +kernel
theorem dX12_looks_1 : decode cX12_looks 1 = .ok (.iconst 1, 1) := by decide +kernel
theorem dX12_looks_2 : decode cX12_looks 2 = .ok (.iload_n 1, 1) := by decide +kernel
theorem dX12_looks_3 : decode cX12_looks 3 = .ok (.invokevirtual 505, 3) := by decide +kernel
theorem dX12_looks_6 : decode cX12_looks 6 = .ok (.ireturn, 1) := by decide +kernel
theorem dX12_isWhat_0 : decode cX12_isWhat 0 = .ok (.iload_n 0, 1) := by decide +kernel
theorem dX12_isWhat_1 : decode cX12_isWhat 1 = .ok (.ifCond .eq 17, 3) := by decide +kernel
theorem dX12_isWhat_4 : decode cX12_isWhat 4 = .ok (.iload_n 0, 1) := by decide +kernel
theorem dX12_isWhat_5 : decode cX12_isWhat 5 = .ok (.i2l, 1) := by decide +kernel
theorem dX12_isWhat_6 : decode cX12_isWhat 6 = .ok (.ldc2_w 370, 3) := by decide +kernel
theorem dX12_isWhat_9 : decode cX12_isWhat 9 = .ok (.ldc2_w 508, 3) := by decide +kernel
theorem dX12_isWhat_12 : decode cX12_isWhat 12 = .ok (.invokestatic 138, 3) := by decide +kernel
theorem dX12_isWhat_15 : decode cX12_isWhat 15 = .ok (.ifCond .eq 7, 3) := by decide +kernel
theorem dX12_isWhat_18 : decode cX12_isWhat 18 = .ok (.iconst 1, 1) := by decide +kernel
theorem dX12_isWhat_19 : decode cX12_isWhat 19 = .ok (.goto 4, 3) := by decide +kernel
theorem dX12_isWhat_22 : decode cX12_isWhat 22 = .ok (.iconst 0, 1) := by decide +kernel
theorem dX12_isWhat_23 : decode cX12_isWhat 23 = .ok (.ireturn, 1) := by decide +kernel
theorem dX12_toldRow_0 : decode cX12_toldRow 0 = .ok (.iload_n 1, 1) := by decide +kernel
theorem dX12_toldRow_1 : decode cX12_toldRow 1 = .ok (.ifCond .ne 10, 3) := by decide +kernel
theorem dX12_toldRow_4 : decode cX12_toldRow 4 = .ok (.aload_n 0, 1) := by decide +kernel
theorem dX12_toldRow_5 : decode cX12_toldRow 5 = .ok (.getfield 425, 3) := by decide +kernel
theorem dX12_toldRow_8 : decode cX12_toldRow 8 = .ok (.goto 35, 3) := by decide +kernel
theorem dX12_toldRow_11 : decode cX12_toldRow 11 = .ok (.aload_n 0, 1) := by decide +kernel
theorem dX12_toldRow_12 : decode cX12_toldRow 12 = .ok (.getfield 425, 3) := by decide +kernel
theorem dX12_toldRow_15 : decode cX12_toldRow 15 = .ok (.iconst (-1), 1) := by decide +kernel
theorem dX12_toldRow_16 : decode cX12_toldRow 16 = .ok (.if_icmp .eq 26, 3) := by decide +kernel
theorem dX12_toldRow_19 : decode cX12_toldRow 19 = .ok (.iload_n 1, 1) := by decide +kernel
theorem dX12_toldRow_20 : decode cX12_toldRow 20 = .ok (.bipush 10, 2) := by decide +kernel
theorem dX12_toldRow_22 : decode cX12_toldRow 22 = .ok (.isub, 1) := by decide +kernel
theorem dX12_toldRow_23 : decode cX12_toldRow 23 = .ok (.aload_n 0, 1) := by decide +kernel
theorem dX12_toldRow_24 : decode cX12_toldRow 24 = .ok (.getfield 428, 3) := by decide +kernel
theorem dX12_toldRow_27 : decode cX12_toldRow 27 = .ok (.if_icmp .ge 15, 3) := by decide +kernel
theorem dX12_toldRow_30 : decode cX12_toldRow 30 = .ok (.aload_n 0, 1) := by decide +kernel
theorem dX12_toldRow_31 : decode cX12_toldRow 31 = .ok (.getfield 48, 3) := by decide +kernel
theorem dX12_toldRow_34 : decode cX12_toldRow 34 = .ok (.iload_n 1, 1) := by decide +kernel
theorem dX12_toldRow_35 : decode cX12_toldRow 35 = .ok (.bipush 10, 2) := by decide +kernel
theorem dX12_toldRow_37 : decode cX12_toldRow 37 = .ok (.isub, 1) := by decide +kernel
theorem dX12_toldRow_38 : decode cX12_toldRow 38 = .ok (.iaload, 1) := by decide +kernel
theorem dX12_toldRow_39 : decode cX12_toldRow 39 = .ok (.goto 4, 3) := by decide +kernel
theorem dX12_toldRow_42 : decode cX12_toldRow 42 = .ok (.iconst (-1), 1) := by decide +kernel
theorem dX12_toldRow_43 : decode cX12_toldRow 43 = .ok (.ireturn, 1) := by decide +kernel
theorem dX12_soonest_0 : decode cX12_soonest 0 = .ok (.aload_n 0, 1) := by decide +kernel
theorem dX12_soonest_1 : decode cX12_soonest 1 = .ok (.iconst 0, 1) := by decide +kernel
theorem dX12_soonest_2 : decode cX12_soonest 2 = .ok (.putfield 77, 3) := by decide +kernel
theorem dX12_soonest_5 : decode cX12_soonest 5 = .ok (.iload_n 1, 1) := by decide +kernel
theorem dX12_soonest_6 : decode cX12_soonest 6 = .ok (.invokestatic 510, 3) := by decide +kernel
theorem dX12_soonest_9 : decode cX12_soonest 9 = .ok (.ifCond .ne 9, 3) := by decide +kernel
theorem dX12_soonest_12 : decode cX12_soonest 12 = .ok (.aload_n 0, 1) := by decide +kernel
theorem dX12_soonest_13 : decode cX12_soonest 13 = .ok (.iconst 1, 1) := by decide +kernel
theorem dX12_soonest_14 : decode cX12_soonest 14 = .ok (.invokevirtual 244, 3) := by decide +kernel
theorem dX12_soonest_17 : decode cX12_soonest 17 = .ok (.ireturn, 1) := by decide +kernel
theorem dX12_soonest_18 : decode cX12_soonest 18 = .ok (.aload_n 0, 1) := by decide +kernel
theorem dX12_soonest_19 : decode cX12_soonest 19 = .ok (.iconst 5, 1) := by decide +kernel
theorem dX12_soonest_20 : decode cX12_soonest 20 = .ok (.aload_n 0, 1) := by decide +kernel
theorem dX12_soonest_21 : decode cX12_soonest 21 = .ok (.invokevirtual 343, 3) := by decide +kernel
theorem dX12_soonest_24 : decode cX12_soonest 24 = .ok (.iconst 5, 1) := by decide +kernel
theorem dX12_soonest_25 : decode cX12_soonest 25 = .ok (.invokevirtual 502, 3) := by decide +kernel
theorem dX12_soonest_28 : decode cX12_soonest 28 = .ok (.aload_n 0, 1) := by decide +kernel
theorem dX12_soonest_29 : decode cX12_soonest 29 = .ok (.iload_n 1, 1) := by decide +kernel
theorem dX12_soonest_30 : decode cX12_soonest 30 = .ok (.invokevirtual 513, 3) := by decide +kernel
theorem dX12_soonest_33 : decode cX12_soonest 33 = .ok (.ireturn, 1) := by decide +kernel
theorem dX12_holding_0 : decode cX12_holding 0 = .ok (.aload_n 0, 1) := by decide +kernel
theorem dX12_holding_1 : decode cX12_holding 1 = .ok (.iconst 2, 1) := by decide +kernel
theorem dX12_holding_2 : decode cX12_holding 2 = .ok (.iload_n 1, 1) := by decide +kernel
theorem dX12_holding_3 : decode cX12_holding 3 = .ok (.invokevirtual 505, 3) := by decide +kernel
theorem dX12_holding_6 : decode cX12_holding 6 = .ok (.ireturn, 1) := by decide +kernel
theorem dX12_toldBest_0 : decode cX12_toldBest 0 = .ok (.iload_n 1, 1) := by decide +kernel
theorem dX12_toldBest_1 : decode cX12_toldBest 1 = .ok (.ifCond .ne 10, 3) := by decide +kernel
theorem dX12_toldBest_4 : decode cX12_toldBest 4 = .ok (.aload_n 0, 1) := by decide +kernel
theorem dX12_toldBest_5 : decode cX12_toldBest 5 = .ok (.getfield 425, 3) := by decide +kernel
theorem dX12_toldBest_8 : decode cX12_toldBest 8 = .ok (.goto 39, 3) := by decide +kernel
theorem dX12_toldBest_11 : decode cX12_toldBest 11 = .ok (.iload_n 1, 1) := by decide +kernel
theorem dX12_toldBest_12 : decode cX12_toldBest 12 = .ok (.iconst 1, 1) := by decide +kernel
theorem dX12_toldBest_13 : decode cX12_toldBest 13 = .ok (.if_icmp .ne 10, 3) := by decide +kernel
theorem dX12_toldBest_16 : decode cX12_toldBest 16 = .ok (.aload_n 0, 1) := by decide +kernel
theorem dX12_toldBest_17 : decode cX12_toldBest 17 = .ok (.getfield 428, 3) := by decide +kernel
theorem dX12_toldBest_20 : decode cX12_toldBest 20 = .ok (.goto 27, 3) := by decide +kernel
theorem dX12_toldBest_23 : decode cX12_toldBest 23 = .ok (.iload_n 1, 1) := by decide +kernel
theorem dX12_toldBest_24 : decode cX12_toldBest 24 = .ok (.bipush 10, 2) := by decide +kernel
theorem dX12_toldBest_26 : decode cX12_toldBest 26 = .ok (.isub, 1) := by decide +kernel
theorem dX12_toldBest_27 : decode cX12_toldBest 27 = .ok (.aload_n 0, 1) := by decide +kernel
theorem dX12_toldBest_28 : decode cX12_toldBest 28 = .ok (.getfield 428, 3) := by decide +kernel
theorem dX12_toldBest_31 : decode cX12_toldBest 31 = .ok (.if_icmp .ge 15, 3) := by decide +kernel
theorem dX12_toldBest_34 : decode cX12_toldBest 34 = .ok (.aload_n 0, 1) := by decide +kernel
theorem dX12_toldBest_35 : decode cX12_toldBest 35 = .ok (.getfield 48, 3) := by decide +kernel
theorem dX12_toldBest_38 : decode cX12_toldBest 38 = .ok (.iload_n 1, 1) := by decide +kernel
theorem dX12_toldBest_39 : decode cX12_toldBest 39 = .ok (.bipush 10, 2) := by decide +kernel
theorem dX12_toldBest_41 : decode cX12_toldBest 41 = .ok (.isub, 1) := by decide +kernel
theorem dX12_toldBest_42 : decode cX12_toldBest 42 = .ok (.iaload, 1) := by decide +kernel
theorem dX12_toldBest_43 : decode cX12_toldBest 43 = .ok (.goto 4, 3) := by decide +kernel
theorem dX12_toldBest_46 : decode cX12_toldBest 46 = .ok (.iconst (-1), 1) := by decide +kernel
theorem dX12_toldBest_47 : decode cX12_toldBest 47 = .ok (.ireturn, 1) := by decide +kernel
theorem dX12_bestBy_0 : decode cX12_bestBy 0 = .ok (.aload_n 0, 1) := by decide +kernel
theorem dX12_bestBy_1 : decode cX12_bestBy 1 = .ok (.iconst 0, 1) := by decide +kernel
theorem dX12_bestBy_2 : decode cX12_bestBy 2 = .ok (.putfield 77, 3) := by decide +kernel
theorem dX12_bestBy_5 : decode cX12_bestBy 5 = .ok (.iload_n 2, 1) := by decide +kernel
theorem dX12_bestBy_6 : decode cX12_bestBy 6 = .ok (.invokestatic 499, 3) := by decide +kernel
theorem dX12_bestBy_9 : decode cX12_bestBy 9 = .ok (.ifCond .eq 15, 3) := by decide +kernel
theorem dX12_bestBy_12 : decode cX12_bestBy 12 = .ok (.iload_n 3, 1) := by decide +kernel
theorem dX12_bestBy_13 : decode cX12_bestBy 13 = .ok (.iconst 1, 1) := by decide +kernel
theorem dX12_bestBy_14 : decode cX12_bestBy 14 = .ok (.if_icmp .eq 16, 3) := by decide +kernel
theorem dX12_bestBy_17 : decode cX12_bestBy 17 = .ok (.iload_n 3, 1) := by decide +kernel
theorem dX12_bestBy_18 : decode cX12_bestBy 18 = .ok (.invokestatic 510, 3) := by decide +kernel
theorem dX12_bestBy_21 : decode cX12_bestBy 21 = .ok (.ifCond .ne 9, 3) := by decide +kernel
theorem dX12_bestBy_24 : decode cX12_bestBy 24 = .ok (.aload_n 0, 1) := by decide +kernel
theorem dX12_bestBy_25 : decode cX12_bestBy 25 = .ok (.iconst 1, 1) := by decide +kernel
theorem dX12_bestBy_26 : decode cX12_bestBy 26 = .ok (.invokevirtual 244, 3) := by decide +kernel
theorem dX12_bestBy_29 : decode cX12_bestBy 29 = .ok (.ireturn, 1) := by decide +kernel
theorem dX12_bestBy_30 : decode cX12_bestBy 30 = .ok (.aload_n 0, 1) := by decide +kernel
theorem dX12_bestBy_31 : decode cX12_bestBy 31 = .ok (.iload_n 1, 1) := by decide +kernel
theorem dX12_bestBy_32 : decode cX12_bestBy 32 = .ok (.aload_n 0, 1) := by decide +kernel
theorem dX12_bestBy_33 : decode cX12_bestBy 33 = .ok (.invokevirtual 343, 3) := by decide +kernel
theorem dX12_bestBy_36 : decode cX12_bestBy 36 = .ok (.iload_n 2, 1) := by decide +kernel
theorem dX12_bestBy_37 : decode cX12_bestBy 37 = .ok (.invokevirtual 502, 3) := by decide +kernel
theorem dX12_bestBy_40 : decode cX12_bestBy 40 = .ok (.aload_n 0, 1) := by decide +kernel
theorem dX12_bestBy_41 : decode cX12_bestBy 41 = .ok (.iload_n 3, 1) := by decide +kernel
theorem dX12_bestBy_42 : decode cX12_bestBy 42 = .ok (.invokevirtual 516, 3) := by decide +kernel
theorem dX12_bestBy_45 : decode cX12_bestBy 45 = .ok (.ireturn, 1) := by decide +kernel
theorem dX12_best_0 : decode cX12_best 0 = .ok (.aload_n 0, 1) := by decide +kernel
theorem dX12_best_1 : decode cX12_best 1 = .ok (.iconst 3, 1) := by decide +kernel
theorem dX12_best_2 : decode cX12_best 2 = .ok (.iload_n 1, 1) := by decide +kernel
theorem dX12_best_3 : decode cX12_best 3 = .ok (.iload_n 2, 1) := by decide +kernel
theorem dX12_best_4 : decode cX12_best 4 = .ok (.invokevirtual 519, 3) := by decide +kernel
theorem dX12_best_7 : decode cX12_best 7 = .ok (.ireturn, 1) := by decide +kernel
theorem dX12_marksFault_0 : decode cX12_marksFault 0 = .ok (.aload_n 0, 1) := by decide +kernel
theorem dX12_marksFault_1 : decode cX12_marksFault 1 = .ok (.iload_n 1, 1) := by decide +kernel
theorem dX12_marksFault_2 : decode cX12_marksFault 2 = .ok (.invokevirtual 389, 3) := by decide +kernel
theorem dX12_marksFault_5 : decode cX12_marksFault 5 = .ok (.istore_n 2, 1) := by decide +kernel
theorem dX12_marksFault_6 : decode cX12_marksFault 6 = .ok (.iload_n 2, 1) := by decide +kernel
theorem dX12_marksFault_7 : decode cX12_marksFault 7 = .ok (.ifCond .eq 5, 3) := by decide +kernel
theorem dX12_marksFault_10 : decode cX12_marksFault 10 = .ok (.iload_n 2, 1) := by decide +kernel
theorem dX12_marksFault_11 : decode cX12_marksFault 11 = .ok (.ireturn, 1) := by decide +kernel
theorem dX12_marksFault_12 : decode cX12_marksFault 12 = .ok (.aload_n 0, 1) := by decide +kernel
theorem dX12_marksFault_13 : decode cX12_marksFault 13 = .ok (.getfield 71, 3) := by decide +kernel
theorem dX12_marksFault_16 : decode cX12_marksFault 16 = .ok (.iload_n 1, 1) := by decide +kernel
theorem dX12_marksFault_17 : decode cX12_marksFault 17 = .ok (.iaload, 1) := by decide +kernel
theorem dX12_marksFault_18 : decode cX12_marksFault 18 = .ok (.i2l, 1) := by decide +kernel
theorem dX12_marksFault_19 : decode cX12_marksFault 19 = .ok (.lconst 1, 1) := by decide +kernel
theorem dX12_marksFault_20 : decode cX12_marksFault 20 = .ok (.ldc2_w 522, 3) := by decide +kernel
theorem dX12_marksFault_23 : decode cX12_marksFault 23 = .ok (.invokestatic 138, 3) := by decide +kernel
theorem dX12_marksFault_26 : decode cX12_marksFault 26 = .ok (.istore_n 3, 1) := by decide +kernel
theorem dX12_marksFault_27 : decode cX12_marksFault 27 = .ok (.iconst 0, 1) := by decide +kernel
theorem dX12_marksFault_28 : decode cX12_marksFault 28 = .ok (.istore 4, 2) := by decide +kernel
theorem dX12_marksFault_30 : decode cX12_marksFault 30 = .ok (.iload 4, 2) := by decide +kernel
theorem dX12_marksFault_32 : decode cX12_marksFault 32 = .ok (.aload_n 0, 1) := by decide +kernel
theorem dX12_marksFault_33 : decode cX12_marksFault 33 = .ok (.getfield 71, 3) := by decide +kernel
theorem dX12_marksFault_36 : decode cX12_marksFault 36 = .ok (.iload_n 1, 1) := by decide +kernel
theorem dX12_marksFault_37 : decode cX12_marksFault 37 = .ok (.iaload, 1) := by decide +kernel
theorem dX12_marksFault_38 : decode cX12_marksFault 38 = .ok (.if_icmp .ge 38, 3) := by decide +kernel
theorem dX12_marksFault_41 : decode cX12_marksFault 41 = .ok (.iload_n 3, 1) := by decide +kernel
theorem dX12_marksFault_42 : decode cX12_marksFault 42 = .ok (.ifCond .eq 34, 3) := by decide +kernel
theorem dX12_marksFault_45 : decode cX12_marksFault 45 = .ok (.aload_n 0, 1) := by decide +kernel
theorem dX12_marksFault_46 : decode cX12_marksFault 46 = .ok (.getfield 74, 3) := by decide +kernel
theorem dX12_marksFault_49 : decode cX12_marksFault 49 = .ok (.bipush 30, 2) := by decide +kernel
theorem dX12_marksFault_51 : decode cX12_marksFault 51 = .ok (.iload_n 1, 1) := by decide +kernel
theorem dX12_marksFault_52 : decode cX12_marksFault 52 = .ok (.imul, 1) := by decide +kernel
theorem dX12_marksFault_53 : decode cX12_marksFault 53 = .ok (.iload 4, 2) := by decide +kernel
theorem dX12_marksFault_55 : decode cX12_marksFault 55 = .ok (.iadd, 1) := by decide +kernel
theorem dX12_marksFault_56 : decode cX12_marksFault 56 = .ok (.laload, 1) := by decide +kernel
theorem dX12_marksFault_57 : decode cX12_marksFault 57 = .ok (.ldc2_w 375, 3) := by decide +kernel
theorem dX12_marksFault_60 : decode cX12_marksFault 60 = .ok (.lcmp, 1) := by decide +kernel
theorem dX12_marksFault_61 : decode cX12_marksFault 61 = .ok (.ifCond .lt 7, 3) := by decide +kernel
theorem dX12_marksFault_64 : decode cX12_marksFault 64 = .ok (.iconst 1, 1) := by decide +kernel
theorem dX12_marksFault_65 : decode cX12_marksFault 65 = .ok (.goto 4, 3) := by decide +kernel
theorem dX12_marksFault_68 : decode cX12_marksFault 68 = .ok (.iconst 0, 1) := by decide +kernel
theorem dX12_marksFault_69 : decode cX12_marksFault 69 = .ok (.istore_n 3, 1) := by decide +kernel
theorem dX12_marksFault_70 : decode cX12_marksFault 70 = .ok (.iinc 4 1, 3) := by decide +kernel
theorem dX12_marksFault_73 : decode cX12_marksFault 73 = .ok (.goto (-43), 3) := by decide +kernel
theorem dX12_marksFault_76 : decode cX12_marksFault 76 = .ok (.iload_n 3, 1) := by decide +kernel
theorem dX12_marksFault_77 : decode cX12_marksFault 77 = .ok (.ifCond .eq 7, 3) := by decide +kernel
theorem dX12_marksFault_80 : decode cX12_marksFault 80 = .ok (.iconst 0, 1) := by decide +kernel
theorem dX12_marksFault_81 : decode cX12_marksFault 81 = .ok (.goto 4, 3) := by decide +kernel
theorem dX12_marksFault_84 : decode cX12_marksFault 84 = .ok (.iconst 3, 1) := by decide +kernel
theorem dX12_marksFault_85 : decode cX12_marksFault 85 = .ok (.ireturn, 1) := by decide +kernel
theorem dX12_reads_0 : decode cX12_reads 0 = .ok (.aload_n 0, 1) := by decide +kernel
theorem dX12_reads_1 : decode cX12_reads 1 = .ok (.aload_n 0, 1) := by decide +kernel
theorem dX12_reads_2 : decode cX12_reads 2 = .ok (.iload_n 1, 1) := by decide +kernel
theorem dX12_reads_3 : decode cX12_reads 3 = .ok (.invokevirtual 524, 3) := by decide +kernel
theorem dX12_reads_6 : decode cX12_reads 6 = .ok (.putfield 77, 3) := by decide +kernel
theorem dX12_reads_9 : decode cX12_reads 9 = .ok (.aload_n 0, 1) := by decide +kernel
theorem dX12_reads_10 : decode cX12_reads 10 = .ok (.getfield 77, 3) := by decide +kernel
theorem dX12_reads_13 : decode cX12_reads 13 = .ok (.ifCond .ne 15, 3) := by decide +kernel
theorem dX12_reads_16 : decode cX12_reads 16 = .ok (.iload_n 2, 1) := by decide +kernel
theorem dX12_reads_17 : decode cX12_reads 17 = .ok (.invokestatic 510, 3) := by decide +kernel
theorem dX12_reads_20 : decode cX12_reads 20 = .ok (.ifCond .ne 8, 3) := by decide +kernel
theorem dX12_reads_23 : decode cX12_reads 23 = .ok (.aload_n 0, 1) := by decide +kernel
theorem dX12_reads_24 : decode cX12_reads 24 = .ok (.iconst 3, 1) := by decide +kernel
theorem dX12_reads_25 : decode cX12_reads 25 = .ok (.putfield 77, 3) := by decide +kernel
theorem dX12_reads_28 : decode cX12_reads 28 = .ok (.aload_n 0, 1) := by decide +kernel
theorem dX12_reads_29 : decode cX12_reads 29 = .ok (.getfield 77, 3) := by decide +kernel
theorem dX12_reads_32 : decode cX12_reads 32 = .ok (.ifCond .le 5, 3) := by decide +kernel
theorem dX12_reads_35 : decode cX12_reads 35 = .ok (.iconst 0, 1) := by decide +kernel
theorem dX12_reads_36 : decode cX12_reads 36 = .ok (.ireturn, 1) := by decide +kernel
theorem dX12_reads_37 : decode cX12_reads 37 = .ok (.aload_n 0, 1) := by decide +kernel
theorem dX12_reads_38 : decode cX12_reads 38 = .ok (.iload_n 1, 1) := by decide +kernel
theorem dX12_reads_39 : decode cX12_reads 39 = .ok (.putfield 449, 3) := by decide +kernel
theorem dX12_reads_42 : decode cX12_reads 42 = .ok (.aload_n 0, 1) := by decide +kernel
theorem dX12_reads_43 : decode cX12_reads 43 = .ok (.iconst 4, 1) := by decide +kernel
theorem dX12_reads_44 : decode cX12_reads 44 = .ok (.aload_n 0, 1) := by decide +kernel
theorem dX12_reads_45 : decode cX12_reads 45 = .ok (.invokevirtual 343, 3) := by decide +kernel
theorem dX12_reads_48 : decode cX12_reads 48 = .ok (.iconst 5, 1) := by decide +kernel
theorem dX12_reads_49 : decode cX12_reads 49 = .ok (.invokevirtual 502, 3) := by decide +kernel
theorem dX12_reads_52 : decode cX12_reads 52 = .ok (.aload_n 0, 1) := by decide +kernel
theorem dX12_reads_53 : decode cX12_reads 53 = .ok (.iload_n 2, 1) := by decide +kernel
theorem dX12_reads_54 : decode cX12_reads 54 = .ok (.invokevirtual 513, 3) := by decide +kernel
theorem dX12_reads_57 : decode cX12_reads 57 = .ok (.ireturn, 1) := by decide +kernel
theorem dX12_step_0 : decode cX12_step 0 = .ok (.aload_n 0, 1) := by decide +kernel
theorem dX12_step_1 : decode cX12_step 1 = .ok (.iconst 0, 1) := by decide +kernel
theorem dX12_step_2 : decode cX12_step 2 = .ok (.putfield 77, 3) := by decide +kernel
theorem dX12_step_5 : decode cX12_step 5 = .ok (.aload_n 0, 1) := by decide +kernel
theorem dX12_step_6 : decode cX12_step 6 = .ok (.iconst 3, 1) := by decide +kernel
theorem dX12_step_7 : decode cX12_step 7 = .ok (.aload_n 0, 1) := by decide +kernel
theorem dX12_step_8 : decode cX12_step 8 = .ok (.invokevirtual 343, 3) := by decide +kernel
theorem dX12_step_11 : decode cX12_step 11 = .ok (.iconst 1, 1) := by decide +kernel
theorem dX12_step_12 : decode cX12_step 12 = .ok (.invokevirtual 502, 3) := by decide +kernel
theorem dX12_step_15 : decode cX12_step 15 = .ok (.aload_n 0, 1) := by decide +kernel
theorem dX12_step_16 : decode cX12_step 16 = .ok (.getfield 428, 3) := by decide +kernel
theorem dX12_step_19 : decode cX12_step 19 = .ok (.ifCond .ne 7, 3) := by decide +kernel
theorem dX12_step_22 : decode cX12_step 22 = .ok (.iconst (-1), 1) := by decide +kernel
theorem dX12_step_23 : decode cX12_step 23 = .ok (.goto 9, 3) := by decide +kernel
theorem dX12_step_26 : decode cX12_step 26 = .ok (.aload_n 0, 1) := by decide +kernel
theorem dX12_step_27 : decode cX12_step 27 = .ok (.getfield 48, 3) := by decide +kernel
theorem dX12_step_30 : decode cX12_step 30 = .ok (.iconst 0, 1) := by decide +kernel
theorem dX12_step_31 : decode cX12_step 31 = .ok (.iaload, 1) := by decide +kernel
theorem dX12_step_32 : decode cX12_step 32 = .ok (.ireturn, 1) := by decide +kernel
theorem dX12_stackFault_0 : decode cX12_stackFault 0 = .ok (.aload_n 0, 1) := by decide +kernel
theorem dX12_stackFault_1 : decode cX12_stackFault 1 = .ok (.iload_n 1, 1) := by decide +kernel
theorem dX12_stackFault_2 : decode cX12_stackFault 2 = .ok (.invokevirtual 389, 3) := by decide +kernel
theorem dX12_stackFault_5 : decode cX12_stackFault 5 = .ok (.istore_n 2, 1) := by decide +kernel
theorem dX12_stackFault_6 : decode cX12_stackFault 6 = .ok (.iload_n 2, 1) := by decide +kernel
theorem dX12_stackFault_7 : decode cX12_stackFault 7 = .ok (.ifCond .eq 5, 3) := by decide +kernel
theorem dX12_stackFault_10 : decode cX12_stackFault 10 = .ok (.iload_n 2, 1) := by decide +kernel
theorem dX12_stackFault_11 : decode cX12_stackFault 11 = .ok (.ireturn, 1) := by decide +kernel
theorem dX12_stackFault_12 : decode cX12_stackFault 12 = .ok (.iconst 0, 1) := by decide +kernel
theorem dX12_stackFault_13 : decode cX12_stackFault 13 = .ok (.istore_n 3, 1) := by decide +kernel
theorem dX12_stackFault_14 : decode cX12_stackFault 14 = .ok (.iconst 0, 1) := by decide +kernel
theorem dX12_stackFault_15 : decode cX12_stackFault 15 = .ok (.istore 4, 2) := by decide +kernel
theorem dX12_stackFault_17 : decode cX12_stackFault 17 = .ok (.iload 4, 2) := by decide +kernel
theorem dX12_stackFault_19 : decode cX12_stackFault 19 = .ok (.aload_n 0, 1) := by decide +kernel
theorem dX12_stackFault_20 : decode cX12_stackFault 20 = .ok (.getfield 71, 3) := by decide +kernel
theorem dX12_stackFault_23 : decode cX12_stackFault 23 = .ok (.iload_n 1, 1) := by decide +kernel
theorem dX12_stackFault_24 : decode cX12_stackFault 24 = .ok (.iaload, 1) := by decide +kernel
theorem dX12_stackFault_25 : decode cX12_stackFault 25 = .ok (.if_icmp .ge 50, 3) := by decide +kernel
theorem dX12_stackFault_28 : decode cX12_stackFault 28 = .ok (.iload_n 3, 1) := by decide +kernel
theorem dX12_stackFault_29 : decode cX12_stackFault 29 = .ok (.aload_n 0, 1) := by decide +kernel
theorem dX12_stackFault_30 : decode cX12_stackFault 30 = .ok (.aload_n 0, 1) := by decide +kernel
theorem dX12_stackFault_31 : decode cX12_stackFault 31 = .ok (.getfield 74, 3) := by decide +kernel
theorem dX12_stackFault_34 : decode cX12_stackFault 34 = .ok (.bipush 30, 2) := by decide +kernel
theorem dX12_stackFault_36 : decode cX12_stackFault 36 = .ok (.iload_n 1, 1) := by decide +kernel
theorem dX12_stackFault_37 : decode cX12_stackFault 37 = .ok (.imul, 1) := by decide +kernel
theorem dX12_stackFault_38 : decode cX12_stackFault 38 = .ok (.iload 4, 2) := by decide +kernel
theorem dX12_stackFault_40 : decode cX12_stackFault 40 = .ok (.iadd, 1) := by decide +kernel
theorem dX12_stackFault_41 : decode cX12_stackFault 41 = .ok (.laload, 1) := by decide +kernel
theorem dX12_stackFault_42 : decode cX12_stackFault 42 = .ok (.invokevirtual 337, 3) := by decide +kernel
theorem dX12_stackFault_45 : decode cX12_stackFault 45 = .ok (.ifCond .eq 21, 3) := by decide +kernel
theorem dX12_stackFault_48 : decode cX12_stackFault 48 = .ok (.iconst 1, 1) := by decide +kernel
theorem dX12_stackFault_49 : decode cX12_stackFault 49 = .ok (.aload_n 0, 1) := by decide +kernel
theorem dX12_stackFault_50 : decode cX12_stackFault 50 = .ok (.getfield 74, 3) := by decide +kernel
theorem dX12_stackFault_53 : decode cX12_stackFault 53 = .ok (.bipush 30, 2) := by decide +kernel
theorem dX12_stackFault_55 : decode cX12_stackFault 55 = .ok (.iload_n 1, 1) := by decide +kernel
theorem dX12_stackFault_56 : decode cX12_stackFault 56 = .ok (.imul, 1) := by decide +kernel
theorem dX12_stackFault_57 : decode cX12_stackFault 57 = .ok (.iload 4, 2) := by decide +kernel
theorem dX12_stackFault_59 : decode cX12_stackFault 59 = .ok (.iadd, 1) := by decide +kernel
theorem dX12_stackFault_60 : decode cX12_stackFault 60 = .ok (.laload, 1) := by decide +kernel
theorem dX12_stackFault_61 : decode cX12_stackFault 61 = .ok (.l2i, 1) := by decide +kernel
theorem dX12_stackFault_62 : decode cX12_stackFault 62 = .ok (.ishl, 1) := by decide +kernel
theorem dX12_stackFault_63 : decode cX12_stackFault 63 = .ok (.goto 4, 3) := by decide +kernel
theorem dX12_stackFault_66 : decode cX12_stackFault 66 = .ok (.iconst 0, 1) := by decide +kernel
theorem dX12_stackFault_67 : decode cX12_stackFault 67 = .ok (.ior, 1) := by decide +kernel
theorem dX12_stackFault_68 : decode cX12_stackFault 68 = .ok (.istore_n 3, 1) := by decide +kernel
theorem dX12_stackFault_69 : decode cX12_stackFault 69 = .ok (.iinc 4 1, 3) := by decide +kernel
theorem dX12_stackFault_72 : decode cX12_stackFault 72 = .ok (.goto (-55), 3) := by decide +kernel
theorem dX12_stackFault_75 : decode cX12_stackFault 75 = .ok (.aload_n 0, 1) := by decide +kernel
theorem dX12_stackFault_76 : decode cX12_stackFault 76 = .ok (.getfield 71, 3) := by decide +kernel
theorem dX12_stackFault_79 : decode cX12_stackFault 79 = .ok (.iload_n 1, 1) := by decide +kernel
theorem dX12_stackFault_80 : decode cX12_stackFault 80 = .ok (.iaload, 1) := by decide +kernel
theorem dX12_stackFault_81 : decode cX12_stackFault 81 = .ok (.aload_n 0, 1) := by decide +kernel
theorem dX12_stackFault_82 : decode cX12_stackFault 82 = .ok (.invokevirtual 253, 3) := by decide +kernel
theorem dX12_stackFault_85 : decode cX12_stackFault 85 = .ok (.if_icmp .ne 19, 3) := by decide +kernel
theorem dX12_stackFault_88 : decode cX12_stackFault 88 = .ok (.iload_n 3, 1) := by decide +kernel
theorem dX12_stackFault_89 : decode cX12_stackFault 89 = .ok (.iconst 1, 1) := by decide +kernel
theorem dX12_stackFault_90 : decode cX12_stackFault 90 = .ok (.aload_n 0, 1) := by decide +kernel
theorem dX12_stackFault_91 : decode cX12_stackFault 91 = .ok (.invokevirtual 253, 3) := by decide +kernel
theorem dX12_stackFault_94 : decode cX12_stackFault 94 = .ok (.ishl, 1) := by decide +kernel
theorem dX12_stackFault_95 : decode cX12_stackFault 95 = .ok (.iconst 1, 1) := by decide +kernel
theorem dX12_stackFault_96 : decode cX12_stackFault 96 = .ok (.isub, 1) := by decide +kernel
theorem dX12_stackFault_97 : decode cX12_stackFault 97 = .ok (.if_icmp .ne 7, 3) := by decide +kernel
theorem dX12_stackFault_100 : decode cX12_stackFault 100 = .ok (.iconst 0, 1) := by decide +kernel
theorem dX12_stackFault_101 : decode cX12_stackFault 101 = .ok (.goto 4, 3) := by decide +kernel
theorem dX12_stackFault_104 : decode cX12_stackFault 104 = .ok (.iconst 3, 1) := by decide +kernel
theorem dX12_stackFault_105 : decode cX12_stackFault 105 = .ok (.ireturn, 1) := by decide +kernel
theorem dX12_isBetween_0 : decode cX12_isBetween 0 = .ok (.iload_n 0, 1) := by decide +kernel
theorem dX12_isBetween_1 : decode cX12_isBetween 1 = .ok (.iload_n 1, 1) := by decide +kernel
theorem dX12_isBetween_2 : decode cX12_isBetween 2 = .ok (.iload_n 2, 1) := by decide +kernel
theorem dX12_isBetween_3 : decode cX12_isBetween 3 = .ok (.invokestatic 299, 3) := by decide +kernel
theorem dX12_isBetween_6 : decode cX12_isBetween 6 = .ok (.if_icmp .le 16, 3) := by decide +kernel
theorem dX12_isBetween_9 : decode cX12_isBetween 9 = .ok (.iload_n 0, 1) := by decide +kernel
theorem dX12_isBetween_10 : decode cX12_isBetween 10 = .ok (.iload_n 1, 1) := by decide +kernel
theorem dX12_isBetween_11 : decode cX12_isBetween 11 = .ok (.iload_n 2, 1) := by decide +kernel
theorem dX12_isBetween_12 : decode cX12_isBetween 12 = .ok (.invokestatic 268, 3) := by decide +kernel
theorem dX12_isBetween_15 : decode cX12_isBetween 15 = .ok (.if_icmp .ge 7, 3) := by decide +kernel
theorem dX12_isBetween_18 : decode cX12_isBetween 18 = .ok (.iconst 1, 1) := by decide +kernel
theorem dX12_isBetween_19 : decode cX12_isBetween 19 = .ok (.goto 4, 3) := by decide +kernel
theorem dX12_isBetween_22 : decode cX12_isBetween 22 = .ok (.iconst 0, 1) := by decide +kernel
theorem dX12_isBetween_23 : decode cX12_isBetween 23 = .ok (.ireturn, 1) := by decide +kernel
theorem dX12_canStand_0 : decode cX12_canStand 0 = .ok (.iconst 0, 1) := by decide +kernel
theorem dX12_canStand_1 : decode cX12_canStand 1 = .ok (.istore_n 1, 1) := by decide +kernel
theorem dX12_canStand_2 : decode cX12_canStand 2 = .ok (.iload_n 1, 1) := by decide +kernel
theorem dX12_canStand_3 : decode cX12_canStand 3 = .ok (.iconst 1, 1) := by decide +kernel
theorem dX12_canStand_4 : decode cX12_canStand 4 = .ok (.iadd, 1) := by decide +kernel
theorem dX12_canStand_5 : decode cX12_canStand 5 = .ok (.aload_n 0, 1) := by decide +kernel
theorem dX12_canStand_6 : decode cX12_canStand 6 = .ok (.invokevirtual 253, 3) := by decide +kernel
theorem dX12_canStand_9 : decode cX12_canStand 9 = .ok (.if_icmp .ge 82, 3) := by decide +kernel
theorem dX12_canStand_12 : decode cX12_canStand 12 = .ok (.iload_n 1, 1) := by decide +kernel
theorem dX12_canStand_13 : decode cX12_canStand 13 = .ok (.iconst 2, 1) := by decide +kernel
theorem dX12_canStand_14 : decode cX12_canStand 14 = .ok (.iadd, 1) := by decide +kernel
theorem dX12_canStand_15 : decode cX12_canStand 15 = .ok (.istore_n 2, 1) := by decide +kernel
theorem dX12_canStand_16 : decode cX12_canStand 16 = .ok (.iload_n 2, 1) := by decide +kernel
theorem dX12_canStand_17 : decode cX12_canStand 17 = .ok (.iconst 1, 1) := by decide +kernel
theorem dX12_canStand_18 : decode cX12_canStand 18 = .ok (.iadd, 1) := by decide +kernel
theorem dX12_canStand_19 : decode cX12_canStand 19 = .ok (.aload_n 0, 1) := by decide +kernel
theorem dX12_canStand_20 : decode cX12_canStand 20 = .ok (.invokevirtual 253, 3) := by decide +kernel
theorem dX12_canStand_23 : decode cX12_canStand 23 = .ok (.if_icmp .ge 62, 3) := by decide +kernel
theorem dX12_canStand_26 : decode cX12_canStand 26 = .ok (.aload_n 0, 1) := by decide +kernel
theorem dX12_canStand_27 : decode cX12_canStand 27 = .ok (.getfield 62, 3) := by decide +kernel
theorem dX12_canStand_30 : decode cX12_canStand 30 = .ok (.iload_n 2, 1) := by decide +kernel
theorem dX12_canStand_31 : decode cX12_canStand 31 = .ok (.iaload, 1) := by decide +kernel
theorem dX12_canStand_32 : decode cX12_canStand 32 = .ok (.aload_n 0, 1) := by decide +kernel
theorem dX12_canStand_33 : decode cX12_canStand 33 = .ok (.getfield 62, 3) := by decide +kernel
theorem dX12_canStand_36 : decode cX12_canStand 36 = .ok (.iload_n 1, 1) := by decide +kernel
theorem dX12_canStand_37 : decode cX12_canStand 37 = .ok (.iaload, 1) := by decide +kernel
theorem dX12_canStand_38 : decode cX12_canStand 38 = .ok (.aload_n 0, 1) := by decide +kernel
theorem dX12_canStand_39 : decode cX12_canStand 39 = .ok (.getfield 62, 3) := by decide +kernel
theorem dX12_canStand_42 : decode cX12_canStand 42 = .ok (.iload_n 1, 1) := by decide +kernel
theorem dX12_canStand_43 : decode cX12_canStand 43 = .ok (.iconst 1, 1) := by decide +kernel
theorem dX12_canStand_44 : decode cX12_canStand 44 = .ok (.iadd, 1) := by decide +kernel
theorem dX12_canStand_45 : decode cX12_canStand 45 = .ok (.iaload, 1) := by decide +kernel
theorem dX12_canStand_46 : decode cX12_canStand 46 = .ok (.invokestatic 527, 3) := by decide +kernel
theorem dX12_canStand_49 : decode cX12_canStand 49 = .ok (.aload_n 0, 1) := by decide +kernel
theorem dX12_canStand_50 : decode cX12_canStand 50 = .ok (.getfield 62, 3) := by decide +kernel
theorem dX12_canStand_53 : decode cX12_canStand 53 = .ok (.iload_n 2, 1) := by decide +kernel
theorem dX12_canStand_54 : decode cX12_canStand 54 = .ok (.iconst 1, 1) := by decide +kernel
theorem dX12_canStand_55 : decode cX12_canStand 55 = .ok (.iadd, 1) := by decide +kernel
theorem dX12_canStand_56 : decode cX12_canStand 56 = .ok (.iaload, 1) := by decide +kernel
theorem dX12_canStand_57 : decode cX12_canStand 57 = .ok (.aload_n 0, 1) := by decide +kernel
theorem dX12_canStand_58 : decode cX12_canStand 58 = .ok (.getfield 62, 3) := by decide +kernel
theorem dX12_canStand_61 : decode cX12_canStand 61 = .ok (.iload_n 1, 1) := by decide +kernel
theorem dX12_canStand_62 : decode cX12_canStand 62 = .ok (.iaload, 1) := by decide +kernel
theorem dX12_canStand_63 : decode cX12_canStand 63 = .ok (.aload_n 0, 1) := by decide +kernel
theorem dX12_canStand_64 : decode cX12_canStand 64 = .ok (.getfield 62, 3) := by decide +kernel
theorem dX12_canStand_67 : decode cX12_canStand 67 = .ok (.iload_n 1, 1) := by decide +kernel
theorem dX12_canStand_68 : decode cX12_canStand 68 = .ok (.iconst 1, 1) := by decide +kernel
theorem dX12_canStand_69 : decode cX12_canStand 69 = .ok (.iadd, 1) := by decide +kernel
theorem dX12_canStand_70 : decode cX12_canStand 70 = .ok (.iaload, 1) := by decide +kernel
theorem dX12_canStand_71 : decode cX12_canStand 71 = .ok (.invokestatic 527, 3) := by decide +kernel
theorem dX12_canStand_74 : decode cX12_canStand 74 = .ok (.if_icmp .eq 5, 3) := by decide +kernel
theorem dX12_canStand_77 : decode cX12_canStand 77 = .ok (.iconst 0, 1) := by decide +kernel
theorem dX12_canStand_78 : decode cX12_canStand 78 = .ok (.ireturn, 1) := by decide +kernel
theorem dX12_canStand_79 : decode cX12_canStand 79 = .ok (.iinc 2 2, 3) := by decide +kernel
theorem dX12_canStand_82 : decode cX12_canStand 82 = .ok (.goto (-66), 3) := by decide +kernel
theorem dX12_canStand_85 : decode cX12_canStand 85 = .ok (.iinc 1 1, 3) := by decide +kernel
theorem dX12_canStand_88 : decode cX12_canStand 88 = .ok (.goto (-86), 3) := by decide +kernel
theorem dX12_canStand_91 : decode cX12_canStand 91 = .ok (.iconst 1, 1) := by decide +kernel
theorem dX12_canStand_92 : decode cX12_canStand 92 = .ok (.ireturn, 1) := by decide +kernel
theorem dX12_stands_0 : decode cX12_stands 0 = .ok (.aload_n 0, 1) := by decide +kernel
theorem dX12_stands_1 : decode cX12_stands 1 = .ok (.aload_n 0, 1) := by decide +kernel
theorem dX12_stands_2 : decode cX12_stands 2 = .ok (.iload_n 1, 1) := by decide +kernel
theorem dX12_stands_3 : decode cX12_stands 3 = .ok (.invokevirtual 531, 3) := by decide +kernel
theorem dX12_stands_6 : decode cX12_stands 6 = .ok (.putfield 77, 3) := by decide +kernel
theorem dX12_stands_9 : decode cX12_stands 9 = .ok (.aload_n 0, 1) := by decide +kernel
theorem dX12_stands_10 : decode cX12_stands 10 = .ok (.getfield 77, 3) := by decide +kernel
theorem dX12_stands_13 : decode cX12_stands 13 = .ok (.ifCond .le 5, 3) := by decide +kernel
theorem dX12_stands_16 : decode cX12_stands 16 = .ok (.iconst 0, 1) := by decide +kernel
theorem dX12_stands_17 : decode cX12_stands 17 = .ok (.ireturn, 1) := by decide +kernel
theorem dX12_stands_18 : decode cX12_stands 18 = .ok (.iconst 0, 1) := by decide +kernel
theorem dX12_stands_19 : decode cX12_stands 19 = .ok (.istore_n 2, 1) := by decide +kernel
theorem dX12_stands_20 : decode cX12_stands 20 = .ok (.iload_n 2, 1) := by decide +kernel
theorem dX12_stands_21 : decode cX12_stands 21 = .ok (.aload_n 0, 1) := by decide +kernel
theorem dX12_stands_22 : decode cX12_stands 22 = .ok (.invokevirtual 253, 3) := by decide +kernel
theorem dX12_stands_25 : decode cX12_stands 25 = .ok (.if_icmp .ge 27, 3) := by decide +kernel
theorem dX12_stands_28 : decode cX12_stands 28 = .ok (.aload_n 0, 1) := by decide +kernel
theorem dX12_stands_29 : decode cX12_stands 29 = .ok (.getfield 62, 3) := by decide +kernel
theorem dX12_stands_32 : decode cX12_stands 32 = .ok (.aload_n 0, 1) := by decide +kernel
theorem dX12_stands_33 : decode cX12_stands 33 = .ok (.getfield 74, 3) := by decide +kernel
theorem dX12_stands_36 : decode cX12_stands 36 = .ok (.bipush 30, 2) := by decide +kernel
theorem dX12_stands_38 : decode cX12_stands 38 = .ok (.iload_n 1, 1) := by decide +kernel
theorem dX12_stands_39 : decode cX12_stands 39 = .ok (.imul, 1) := by decide +kernel
theorem dX12_stands_40 : decode cX12_stands 40 = .ok (.iload_n 2, 1) := by decide +kernel
theorem dX12_stands_41 : decode cX12_stands 41 = .ok (.iadd, 1) := by decide +kernel
theorem dX12_stands_42 : decode cX12_stands 42 = .ok (.laload, 1) := by decide +kernel
theorem dX12_stands_43 : decode cX12_stands 43 = .ok (.l2i, 1) := by decide +kernel
theorem dX12_stands_44 : decode cX12_stands 44 = .ok (.iload_n 2, 1) := by decide +kernel
theorem dX12_stands_45 : decode cX12_stands 45 = .ok (.iastore, 1) := by decide +kernel
theorem dX12_stands_46 : decode cX12_stands 46 = .ok (.iinc 2 1, 3) := by decide +kernel
theorem dX12_stands_49 : decode cX12_stands 49 = .ok (.goto (-29), 3) := by decide +kernel
theorem dX12_stands_52 : decode cX12_stands 52 = .ok (.aload_n 0, 1) := by decide +kernel
theorem dX12_stands_53 : decode cX12_stands 53 = .ok (.invokevirtual 534, 3) := by decide +kernel
theorem dX12_stands_56 : decode cX12_stands 56 = .ok (.ireturn, 1) := by decide +kernel
theorem dX12_standing_0 : decode cX12_standing 0 = .ok (.iload_n 1, 1) := by decide +kernel
theorem dX12_standing_1 : decode cX12_standing 1 = .ok (.aload_n 0, 1) := by decide +kernel
theorem dX12_standing_2 : decode cX12_standing 2 = .ok (.invokevirtual 253, 3) := by decide +kernel
theorem dX12_standing_5 : decode cX12_standing 5 = .ok (.if_icmp .ne 16, 3) := by decide +kernel
theorem dX12_standing_8 : decode cX12_standing 8 = .ok (.aload_n 0, 1) := by decide +kernel
theorem dX12_standing_9 : decode cX12_standing 9 = .ok (.invokevirtual 534, 3) := by decide +kernel
theorem dX12_standing_12 : decode cX12_standing 12 = .ok (.ifCond .eq 7, 3) := by decide +kernel
theorem dX12_standing_15 : decode cX12_standing 15 = .ok (.iconst 1, 1) := by decide +kernel
theorem dX12_standing_16 : decode cX12_standing 16 = .ok (.goto 4, 3) := by decide +kernel
theorem dX12_standing_19 : decode cX12_standing 19 = .ok (.iconst 0, 1) := by decide +kernel
theorem dX12_standing_20 : decode cX12_standing 20 = .ok (.ireturn, 1) := by decide +kernel
theorem dX12_standing_21 : decode cX12_standing 21 = .ok (.iconst 0, 1) := by decide +kernel
theorem dX12_standing_22 : decode cX12_standing 22 = .ok (.istore_n 3, 1) := by decide +kernel
theorem dX12_standing_23 : decode cX12_standing 23 = .ok (.iconst 0, 1) := by decide +kernel
theorem dX12_standing_24 : decode cX12_standing 24 = .ok (.istore 4, 2) := by decide +kernel
theorem dX12_standing_26 : decode cX12_standing 26 = .ok (.iload 4, 2) := by decide +kernel
theorem dX12_standing_28 : decode cX12_standing 28 = .ok (.aload_n 0, 1) := by decide +kernel
theorem dX12_standing_29 : decode cX12_standing 29 = .ok (.invokevirtual 253, 3) := by decide +kernel
theorem dX12_standing_32 : decode cX12_standing 32 = .ok (.if_icmp .ge 45, 3) := by decide +kernel
theorem dX12_standing_35 : decode cX12_standing 35 = .ok (.iload_n 2, 1) := by decide +kernel
theorem dX12_standing_36 : decode cX12_standing 36 = .ok (.iload 4, 2) := by decide +kernel
theorem dX12_standing_38 : decode cX12_standing 38 = .ok (.invokestatic 538, 3) := by decide +kernel
theorem dX12_standing_41 : decode cX12_standing 41 = .ok (.ifCond .eq 6, 3) := by decide +kernel
theorem dX12_standing_44 : decode cX12_standing 44 = .ok (.goto 27, 3) := by decide +kernel
theorem dX12_standing_47 : decode cX12_standing 47 = .ok (.aload_n 0, 1) := by decide +kernel
theorem dX12_standing_48 : decode cX12_standing 48 = .ok (.getfield 62, 3) := by decide +kernel
theorem dX12_standing_51 : decode cX12_standing 51 = .ok (.iload_n 1, 1) := by decide +kernel
theorem dX12_standing_52 : decode cX12_standing 52 = .ok (.iload 4, 2) := by decide +kernel
theorem dX12_standing_54 : decode cX12_standing 54 = .ok (.iastore, 1) := by decide +kernel
theorem dX12_standing_55 : decode cX12_standing 55 = .ok (.iload_n 3, 1) := by decide +kernel
theorem dX12_standing_56 : decode cX12_standing 56 = .ok (.aload_n 0, 1) := by decide +kernel
theorem dX12_standing_57 : decode cX12_standing 57 = .ok (.iload_n 1, 1) := by decide +kernel
theorem dX12_standing_58 : decode cX12_standing 58 = .ok (.iconst 1, 1) := by decide +kernel
theorem dX12_standing_59 : decode cX12_standing 59 = .ok (.iadd, 1) := by decide +kernel
theorem dX12_standing_60 : decode cX12_standing 60 = .ok (.iload_n 2, 1) := by decide +kernel
theorem dX12_standing_61 : decode cX12_standing 61 = .ok (.iconst 1, 1) := by decide +kernel
theorem dX12_standing_62 : decode cX12_standing 62 = .ok (.iload 4, 2) := by decide +kernel
theorem dX12_standing_64 : decode cX12_standing 64 = .ok (.ishl, 1) := by decide +kernel
theorem dX12_standing_65 : decode cX12_standing 65 = .ok (.ior, 1) := by decide +kernel
theorem dX12_standing_66 : decode cX12_standing 66 = .ok (.invokevirtual 541, 3) := by decide +kernel
theorem dX12_standing_69 : decode cX12_standing 69 = .ok (.iadd, 1) := by decide +kernel
theorem dX12_standing_70 : decode cX12_standing 70 = .ok (.istore_n 3, 1) := by decide +kernel
theorem dX12_standing_71 : decode cX12_standing 71 = .ok (.iinc 4 1, 3) := by decide +kernel
theorem dX12_standing_74 : decode cX12_standing 74 = .ok (.goto (-48), 3) := by decide +kernel
theorem dX12_standing_77 : decode cX12_standing 77 = .ok (.iload_n 3, 1) := by decide +kernel
theorem dX12_standing_78 : decode cX12_standing 78 = .ok (.ireturn, 1) := by decide +kernel
theorem dX12_stacks_0 : decode cX12_stacks 0 = .ok (.aload_n 0, 1) := by decide +kernel
theorem dX12_stacks_1 : decode cX12_stacks 1 = .ok (.iconst 0, 1) := by decide +kernel
theorem dX12_stacks_2 : decode cX12_stacks 2 = .ok (.putfield 77, 3) := by decide +kernel
theorem dX12_stacks_5 : decode cX12_stacks 5 = .ok (.aload_n 0, 1) := by decide +kernel
theorem dX12_stacks_6 : decode cX12_stacks 6 = .ok (.iconst 0, 1) := by decide +kernel
theorem dX12_stacks_7 : decode cX12_stacks 7 = .ok (.iconst 0, 1) := by decide +kernel
theorem dX12_stacks_8 : decode cX12_stacks 8 = .ok (.invokevirtual 541, 3) := by decide +kernel
theorem dX12_stacks_11 : decode cX12_stacks 11 = .ok (.ireturn, 1) := by decide +kernel
theorem dX12_stack_0 : decode cX12_stack 0 = .ok (.aload_n 0, 1) := by decide +kernel
theorem dX12_stack_1 : decode cX12_stack 1 = .ok (.aload_n 0, 1) := by decide +kernel
theorem dX12_stack_2 : decode cX12_stack 2 = .ok (.iload_n 1, 1) := by decide +kernel
theorem dX12_stack_3 : decode cX12_stack 3 = .ok (.invokevirtual 531, 3) := by decide +kernel
theorem dX12_stack_6 : decode cX12_stack 6 = .ok (.putfield 77, 3) := by decide +kernel
theorem dX12_stack_9 : decode cX12_stack 9 = .ok (.aload_n 0, 1) := by decide +kernel
theorem dX12_stack_10 : decode cX12_stack 10 = .ok (.getfield 77, 3) := by decide +kernel
theorem dX12_stack_13 : decode cX12_stack 13 = .ok (.ifCond .le 5, 3) := by decide +kernel
theorem dX12_stack_16 : decode cX12_stack 16 = .ok (.iconst 0, 1) := by decide +kernel
theorem dX12_stack_17 : decode cX12_stack 17 = .ok (.ireturn, 1) := by decide +kernel
theorem dX12_stack_18 : decode cX12_stack 18 = .ok (.aload_n 0, 1) := by decide +kernel
theorem dX12_stack_19 : decode cX12_stack 19 = .ok (.iload_n 1, 1) := by decide +kernel
theorem dX12_stack_20 : decode cX12_stack 20 = .ok (.putfield 449, 3) := by decide +kernel
theorem dX12_stack_23 : decode cX12_stack 23 = .ok (.aload_n 0, 1) := by decide +kernel
theorem dX12_stack_24 : decode cX12_stack 24 = .ok (.invokevirtual 277, 3) := by decide +kernel
theorem dX12_stack_27 : decode cX12_stack 27 = .ok (.aload_n 0, 1) := by decide +kernel
theorem dX12_stack_28 : decode cX12_stack 28 = .ok (.bipush 9, 2) := by decide +kernel
theorem dX12_stack_30 : decode cX12_stack 30 = .ok (.iconst 0, 1) := by decide +kernel
theorem dX12_stack_31 : decode cX12_stack 31 = .ok (.iconst 5, 1) := by decide +kernel
theorem dX12_stack_32 : decode cX12_stack 32 = .ok (.invokevirtual 502, 3) := by decide +kernel
theorem dX12_stack_35 : decode cX12_stack 35 = .ok (.aload_n 0, 1) := by decide +kernel
theorem dX12_stack_36 : decode cX12_stack 36 = .ok (.getfield 425, 3) := by decide +kernel
theorem dX12_stack_39 : decode cX12_stack 39 = .ok (.ireturn, 1) := by decide +kernel
theorem dX12_manyFromFlat_0 : decode cX12_manyFromFlat 0 = .ok (.aload_n 0, 1) := by decide +kernel
theorem dX12_manyFromFlat_1 : decode cX12_manyFromFlat 1 = .ok (.iconst 0, 1) := by decide +kernel
theorem dX12_manyFromFlat_2 : decode cX12_manyFromFlat 2 = .ok (.putfield 77, 3) := by decide +kernel
theorem dX12_manyFromFlat_5 : decode cX12_manyFromFlat 5 = .ok (.aload_n 0, 1) := by decide +kernel
theorem dX12_manyFromFlat_6 : decode cX12_manyFromFlat 6 = .ok (.invokevirtual 277, 3) := by decide +kernel
theorem dX12_manyFromFlat_9 : decode cX12_manyFromFlat 9 = .ok (.aload_n 0, 1) := by decide +kernel
theorem dX12_manyFromFlat_10 : decode cX12_manyFromFlat 10 = .ok (.iload_n 1, 1) := by decide +kernel
theorem dX12_manyFromFlat_11 : decode cX12_manyFromFlat 11 = .ok (.iconst 0, 1) := by decide +kernel
theorem dX12_manyFromFlat_12 : decode cX12_manyFromFlat 12 = .ok (.iconst 5, 1) := by decide +kernel
theorem dX12_manyFromFlat_13 : decode cX12_manyFromFlat 13 = .ok (.invokevirtual 502, 3) := by decide +kernel
theorem dX12_manyFromFlat_16 : decode cX12_manyFromFlat 16 = .ok (.aload_n 0, 1) := by decide +kernel
theorem dX12_manyFromFlat_17 : decode cX12_manyFromFlat 17 = .ok (.getfield 452, 3) := by decide +kernel
theorem dX12_manyFromFlat_20 : decode cX12_manyFromFlat 20 = .ok (.ireturn, 1) := by decide +kernel
theorem dX12_simple_0 : decode cX12_simple 0 = .ok (.aload_n 0, 1) := by decide +kernel
theorem dX12_simple_1 : decode cX12_simple 1 = .ok (.bipush 10, 2) := by decide +kernel
theorem dX12_simple_3 : decode cX12_simple 3 = .ok (.invokevirtual 544, 3) := by decide +kernel
theorem dX12_simple_6 : decode cX12_simple 6 = .ok (.ireturn, 1) := by decide +kernel
theorem dX12_creasesFault_0 : decode cX12_creasesFault 0 = .ok (.aload_n 0, 1) := by decide +kernel
theorem dX12_creasesFault_1 : decode cX12_creasesFault 1 = .ok (.iload_n 1, 1) := by decide +kernel
theorem dX12_creasesFault_2 : decode cX12_creasesFault 2 = .ok (.invokevirtual 389, 3) := by decide +kernel
theorem dX12_creasesFault_5 : decode cX12_creasesFault 5 = .ok (.istore_n 2, 1) := by decide +kernel
theorem dX12_creasesFault_6 : decode cX12_creasesFault 6 = .ok (.iload_n 2, 1) := by decide +kernel
theorem dX12_creasesFault_7 : decode cX12_creasesFault 7 = .ok (.ifCond .eq 5, 3) := by decide +kernel
theorem dX12_creasesFault_10 : decode cX12_creasesFault 10 = .ok (.iload_n 2, 1) := by decide +kernel
theorem dX12_creasesFault_11 : decode cX12_creasesFault 11 = .ok (.ireturn, 1) := by decide +kernel
theorem dX12_creasesFault_12 : decode cX12_creasesFault 12 = .ok (.aload_n 0, 1) := by decide +kernel
theorem dX12_creasesFault_13 : decode cX12_creasesFault 13 = .ok (.getfield 71, 3) := by decide +kernel
theorem dX12_creasesFault_16 : decode cX12_creasesFault 16 = .ok (.iload_n 1, 1) := by decide +kernel
theorem dX12_creasesFault_17 : decode cX12_creasesFault 17 = .ok (.iaload, 1) := by decide +kernel
theorem dX12_creasesFault_18 : decode cX12_creasesFault 18 = .ok (.iconst 0, 1) := by decide +kernel
theorem dX12_creasesFault_19 : decode cX12_creasesFault 19 = .ok (.aload_n 0, 1) := by decide +kernel
theorem dX12_creasesFault_20 : decode cX12_creasesFault 20 = .ok (.invokevirtual 253, 3) := by decide +kernel
theorem dX12_creasesFault_23 : decode cX12_creasesFault 23 = .ok (.iconst 1, 1) := by decide +kernel
theorem dX12_creasesFault_24 : decode cX12_creasesFault 24 = .ok (.isub, 1) := by decide +kernel
theorem dX12_creasesFault_25 : decode cX12_creasesFault 25 = .ok (.invokestatic 268, 3) := by decide +kernel
theorem dX12_creasesFault_28 : decode cX12_creasesFault 28 = .ok (.if_icmp .ne 7, 3) := by decide +kernel
theorem dX12_creasesFault_31 : decode cX12_creasesFault 31 = .ok (.iconst 1, 1) := by decide +kernel
theorem dX12_creasesFault_32 : decode cX12_creasesFault 32 = .ok (.goto 4, 3) := by decide +kernel
theorem dX12_creasesFault_35 : decode cX12_creasesFault 35 = .ok (.iconst 0, 1) := by decide +kernel
theorem dX12_creasesFault_36 : decode cX12_creasesFault 36 = .ok (.istore_n 3, 1) := by decide +kernel
theorem dX12_creasesFault_37 : decode cX12_creasesFault 37 = .ok (.iconst 0, 1) := by decide +kernel
theorem dX12_creasesFault_38 : decode cX12_creasesFault 38 = .ok (.istore 4, 2) := by decide +kernel
theorem dX12_creasesFault_40 : decode cX12_creasesFault 40 = .ok (.iload 4, 2) := by decide +kernel
theorem dX12_creasesFault_42 : decode cX12_creasesFault 42 = .ok (.aload_n 0, 1) := by decide +kernel
theorem dX12_creasesFault_43 : decode cX12_creasesFault 43 = .ok (.getfield 71, 3) := by decide +kernel
theorem dX12_creasesFault_46 : decode cX12_creasesFault 46 = .ok (.iload_n 1, 1) := by decide +kernel
theorem dX12_creasesFault_47 : decode cX12_creasesFault 47 = .ok (.iaload, 1) := by decide +kernel
theorem dX12_creasesFault_48 : decode cX12_creasesFault 48 = .ok (.if_icmp .ge 33, 3) := by decide +kernel
theorem dX12_creasesFault_51 : decode cX12_creasesFault 51 = .ok (.iload_n 3, 1) := by decide +kernel
theorem dX12_creasesFault_52 : decode cX12_creasesFault 52 = .ok (.ifCond .eq 29, 3) := by decide +kernel
theorem dX12_creasesFault_55 : decode cX12_creasesFault 55 = .ok (.aload_n 0, 1) := by decide +kernel
theorem dX12_creasesFault_56 : decode cX12_creasesFault 56 = .ok (.getfield 74, 3) := by decide +kernel
theorem dX12_creasesFault_59 : decode cX12_creasesFault 59 = .ok (.bipush 30, 2) := by decide +kernel
theorem dX12_creasesFault_61 : decode cX12_creasesFault 61 = .ok (.iload_n 1, 1) := by decide +kernel
theorem dX12_creasesFault_62 : decode cX12_creasesFault 62 = .ok (.imul, 1) := by decide +kernel
theorem dX12_creasesFault_63 : decode cX12_creasesFault 63 = .ok (.iload 4, 2) := by decide +kernel
theorem dX12_creasesFault_65 : decode cX12_creasesFault 65 = .ok (.iadd, 1) := by decide +kernel
theorem dX12_creasesFault_66 : decode cX12_creasesFault 66 = .ok (.laload, 1) := by decide +kernel
theorem dX12_creasesFault_67 : decode cX12_creasesFault 67 = .ok (.lconst 0, 1) := by decide +kernel
theorem dX12_creasesFault_68 : decode cX12_creasesFault 68 = .ok (.ldc2_w 547, 3) := by decide +kernel
theorem dX12_creasesFault_71 : decode cX12_creasesFault 71 = .ok (.invokestatic 138, 3) := by decide +kernel
theorem dX12_creasesFault_74 : decode cX12_creasesFault 74 = .ok (.istore_n 3, 1) := by decide +kernel
theorem dX12_creasesFault_75 : decode cX12_creasesFault 75 = .ok (.iinc 4 1, 3) := by decide +kernel
theorem dX12_creasesFault_78 : decode cX12_creasesFault 78 = .ok (.goto (-38), 3) := by decide +kernel
theorem dX12_creasesFault_81 : decode cX12_creasesFault 81 = .ok (.iload_n 3, 1) := by decide +kernel
theorem dX12_creasesFault_82 : decode cX12_creasesFault 82 = .ok (.ifCond .eq 7, 3) := by decide +kernel
theorem dX12_creasesFault_85 : decode cX12_creasesFault 85 = .ok (.iconst 0, 1) := by decide +kernel
theorem dX12_creasesFault_86 : decode cX12_creasesFault 86 = .ok (.goto 4, 3) := by decide +kernel
theorem dX12_creasesFault_89 : decode cX12_creasesFault 89 = .ok (.iconst 3, 1) := by decide +kernel
theorem dX12_creasesFault_90 : decode cX12_creasesFault 90 = .ok (.ireturn, 1) := by decide +kernel
theorem dX12_made_0 : decode cX12_made 0 = .ok (.aload_n 0, 1) := by decide +kernel
theorem dX12_made_1 : decode cX12_made 1 = .ok (.aload_n 0, 1) := by decide +kernel
theorem dX12_made_2 : decode cX12_made 2 = .ok (.iload_n 1, 1) := by decide +kernel
theorem dX12_made_3 : decode cX12_made 3 = .ok (.invokevirtual 549, 3) := by decide +kernel
theorem dX12_made_6 : decode cX12_made 6 = .ok (.putfield 77, 3) := by decide +kernel
theorem dX12_made_9 : decode cX12_made 9 = .ok (.aload_n 0, 1) := by decide +kernel
theorem dX12_made_10 : decode cX12_made 10 = .ok (.getfield 77, 3) := by decide +kernel
theorem dX12_made_13 : decode cX12_made 13 = .ok (.ifCond .le 5, 3) := by decide +kernel
theorem dX12_made_16 : decode cX12_made 16 = .ok (.iconst 0, 1) := by decide +kernel
theorem dX12_made_17 : decode cX12_made 17 = .ok (.ireturn, 1) := by decide +kernel
theorem dX12_made_18 : decode cX12_made 18 = .ok (.aload_n 0, 1) := by decide +kernel
theorem dX12_made_19 : decode cX12_made 19 = .ok (.iload_n 1, 1) := by decide +kernel
theorem dX12_made_20 : decode cX12_made 20 = .ok (.putfield 449, 3) := by decide +kernel
theorem dX12_made_23 : decode cX12_made 23 = .ok (.aload_n 0, 1) := by decide +kernel
theorem dX12_made_24 : decode cX12_made 24 = .ok (.invokevirtual 277, 3) := by decide +kernel
theorem dX12_made_27 : decode cX12_made 27 = .ok (.aload_n 0, 1) := by decide +kernel
theorem dX12_made_28 : decode cX12_made 28 = .ok (.bipush 11, 2) := by decide +kernel
theorem dX12_made_30 : decode cX12_made 30 = .ok (.iconst 0, 1) := by decide +kernel
theorem dX12_made_31 : decode cX12_made 31 = .ok (.iconst 5, 1) := by decide +kernel
theorem dX12_made_32 : decode cX12_made 32 = .ok (.invokevirtual 502, 3) := by decide +kernel
theorem dX12_made_35 : decode cX12_made 35 = .ok (.aload_n 0, 1) := by decide +kernel
theorem dX12_made_36 : decode cX12_made 36 = .ok (.getfield 452, 3) := by decide +kernel
theorem dX12_made_39 : decode cX12_made 39 = .ok (.ireturn, 1) := by decide +kernel
theorem dX12_madeBy_0 : decode cX12_madeBy 0 = .ok (.aload_n 0, 1) := by decide +kernel
theorem dX12_madeBy_1 : decode cX12_madeBy 1 = .ok (.aload_n 0, 1) := by decide +kernel
theorem dX12_madeBy_2 : decode cX12_madeBy 2 = .ok (.iload_n 1, 1) := by decide +kernel
theorem dX12_madeBy_3 : decode cX12_madeBy 3 = .ok (.invokevirtual 549, 3) := by decide +kernel
theorem dX12_madeBy_6 : decode cX12_madeBy 6 = .ok (.putfield 77, 3) := by decide +kernel
theorem dX12_madeBy_9 : decode cX12_madeBy 9 = .ok (.aload_n 0, 1) := by decide +kernel
theorem dX12_madeBy_10 : decode cX12_madeBy 10 = .ok (.getfield 77, 3) := by decide +kernel
theorem dX12_madeBy_13 : decode cX12_madeBy 13 = .ok (.ifCond .ne 12, 3) := by decide +kernel
theorem dX12_madeBy_16 : decode cX12_madeBy 16 = .ok (.iload_n 2, 1) := by decide +kernel
theorem dX12_madeBy_17 : decode cX12_madeBy 17 = .ok (.ifCond .ge 8, 3) := by decide +kernel
theorem dX12_madeBy_20 : decode cX12_madeBy 20 = .ok (.aload_n 0, 1) := by decide +kernel
theorem dX12_madeBy_21 : decode cX12_madeBy 21 = .ok (.iconst 3, 1) := by decide +kernel
theorem dX12_madeBy_22 : decode cX12_madeBy 22 = .ok (.putfield 77, 3) := by decide +kernel
theorem dX12_madeBy_25 : decode cX12_madeBy 25 = .ok (.aload_n 0, 1) := by decide +kernel
theorem dX12_madeBy_26 : decode cX12_madeBy 26 = .ok (.getfield 77, 3) := by decide +kernel
theorem dX12_madeBy_29 : decode cX12_madeBy 29 = .ok (.ifCond .le 5, 3) := by decide +kernel
theorem dX12_madeBy_32 : decode cX12_madeBy 32 = .ok (.iconst 0, 1) := by decide +kernel
theorem dX12_madeBy_33 : decode cX12_madeBy 33 = .ok (.ireturn, 1) := by decide +kernel
theorem dX12_madeBy_34 : decode cX12_madeBy 34 = .ok (.aload_n 0, 1) := by decide +kernel
theorem dX12_madeBy_35 : decode cX12_madeBy 35 = .ok (.iload_n 1, 1) := by decide +kernel
theorem dX12_madeBy_36 : decode cX12_madeBy 36 = .ok (.putfield 449, 3) := by decide +kernel
theorem dX12_madeBy_39 : decode cX12_madeBy 39 = .ok (.aload_n 0, 1) := by decide +kernel
theorem dX12_madeBy_40 : decode cX12_madeBy 40 = .ok (.invokevirtual 277, 3) := by decide +kernel
theorem dX12_madeBy_43 : decode cX12_madeBy 43 = .ok (.aload_n 0, 1) := by decide +kernel
theorem dX12_madeBy_44 : decode cX12_madeBy 44 = .ok (.bipush 11, 2) := by decide +kernel
theorem dX12_madeBy_46 : decode cX12_madeBy 46 = .ok (.iconst 0, 1) := by decide +kernel
theorem dX12_madeBy_47 : decode cX12_madeBy 47 = .ok (.iconst 5, 1) := by decide +kernel
theorem dX12_madeBy_48 : decode cX12_madeBy 48 = .ok (.invokevirtual 502, 3) := by decide +kernel
theorem dX12_madeBy_51 : decode cX12_madeBy 51 = .ok (.iload_n 2, 1) := by decide +kernel
theorem dX12_madeBy_52 : decode cX12_madeBy 52 = .ok (.aload_n 0, 1) := by decide +kernel
theorem dX12_madeBy_53 : decode cX12_madeBy 53 = .ok (.getfield 428, 3) := by decide +kernel
theorem dX12_madeBy_56 : decode cX12_madeBy 56 = .ok (.if_icmp .ge 12, 3) := by decide +kernel
theorem dX12_madeBy_59 : decode cX12_madeBy 59 = .ok (.aload_n 0, 1) := by decide +kernel
theorem dX12_madeBy_60 : decode cX12_madeBy 60 = .ok (.getfield 48, 3) := by decide +kernel
theorem dX12_madeBy_63 : decode cX12_madeBy 63 = .ok (.iload_n 2, 1) := by decide +kernel
theorem dX12_madeBy_64 : decode cX12_madeBy 64 = .ok (.iaload, 1) := by decide +kernel
theorem dX12_madeBy_65 : decode cX12_madeBy 65 = .ok (.goto 4, 3) := by decide +kernel
theorem dX12_madeBy_68 : decode cX12_madeBy 68 = .ok (.iconst (-1), 1) := by decide +kernel
theorem dX12_madeBy_69 : decode cX12_madeBy 69 = .ok (.ireturn, 1) := by decide +kernel
theorem dX12_patterns_0 : decode cX12_patterns 0 = .ok (.aload_n 0, 1) := by decide +kernel
theorem dX12_patterns_1 : decode cX12_patterns 1 = .ok (.bipush 12, 2) := by decide +kernel
theorem dX12_patterns_3 : decode cX12_patterns 3 = .ok (.invokevirtual 544, 3) := by decide +kernel
theorem dX12_patterns_6 : decode cX12_patterns 6 = .ok (.ireturn, 1) := by decide +kernel
theorem dX12_laysLiked_0 : decode cX12_laysLiked 0 = .ok (.aload_n 0, 1) := by decide +kernel
theorem dX12_laysLiked_1 : decode cX12_laysLiked 1 = .ok (.invokevirtual 343, 3) := by decide +kernel
theorem dX12_laysLiked_4 : decode cX12_laysLiked 4 = .ok (.istore_n 1, 1) := by decide +kernel
theorem dX12_laysLiked_5 : decode cX12_laysLiked 5 = .ok (.iconst 0, 1) := by decide +kernel
theorem dX12_laysLiked_6 : decode cX12_laysLiked 6 = .ok (.istore_n 2, 1) := by decide +kernel
theorem dX12_laysLiked_7 : decode cX12_laysLiked 7 = .ok (.iload_n 2, 1) := by decide +kernel
theorem dX12_laysLiked_8 : decode cX12_laysLiked 8 = .ok (.aload_n 0, 1) := by decide +kernel
theorem dX12_laysLiked_9 : decode cX12_laysLiked 9 = .ok (.getfield 9, 3) := by decide +kernel
theorem dX12_laysLiked_12 : decode cX12_laysLiked 12 = .ok (.iconst 2, 1) := by decide +kernel
theorem dX12_laysLiked_13 : decode cX12_laysLiked 13 = .ok (.iaload, 1) := by decide +kernel
theorem dX12_laysLiked_14 : decode cX12_laysLiked 14 = .ok (.if_icmp .ge 21, 3) := by decide +kernel
theorem dX12_laysLiked_17 : decode cX12_laysLiked 17 = .ok (.aload_n 0, 1) := by decide +kernel
theorem dX12_laysLiked_18 : decode cX12_laysLiked 18 = .ok (.getfield 51, 3) := by decide +kernel
theorem dX12_laysLiked_21 : decode cX12_laysLiked 21 = .ok (.iload_n 2, 1) := by decide +kernel
theorem dX12_laysLiked_22 : decode cX12_laysLiked 22 = .ok (.aload_n 0, 1) := by decide +kernel
theorem dX12_laysLiked_23 : decode cX12_laysLiked 23 = .ok (.iload_n 1, 1) := by decide +kernel
theorem dX12_laysLiked_24 : decode cX12_laysLiked 24 = .ok (.iload_n 2, 1) := by decide +kernel
theorem dX12_laysLiked_25 : decode cX12_laysLiked 25 = .ok (.invokevirtual 355, 3) := by decide +kernel
theorem dX12_laysLiked_28 : decode cX12_laysLiked 28 = .ok (.iastore, 1) := by decide +kernel
theorem dX12_laysLiked_29 : decode cX12_laysLiked 29 = .ok (.iinc 2 1, 3) := by decide +kernel
theorem dX12_laysLiked_32 : decode cX12_laysLiked 32 = .ok (.goto (-25), 3) := by decide +kernel
theorem dX12_laysLiked_35 : decode cX12_laysLiked 35 = .ok (.return_, 1) := by decide +kernel
theorem dX12_refuse_0 : decode cX12_refuse 0 = .ok (.aload_n 0, 1) := by decide +kernel
theorem dX12_refuse_1 : decode cX12_refuse 1 = .ok (.iconst 0, 1) := by decide +kernel
theorem dX12_refuse_2 : decode cX12_refuse 2 = .ok (.putfield 77, 3) := by decide +kernel
theorem dX12_refuse_5 : decode cX12_refuse 5 = .ok (.aload_n 0, 1) := by decide +kernel
theorem dX12_refuse_6 : decode cX12_refuse 6 = .ok (.invokevirtual 552, 3) := by decide +kernel
theorem dX12_refuse_9 : decode cX12_refuse 9 = .ok (.aload_n 0, 1) := by decide +kernel
theorem dX12_refuse_10 : decode cX12_refuse 10 = .ok (.invokevirtual 277, 3) := by decide +kernel
theorem dX12_refuse_13 : decode cX12_refuse 13 = .ok (.iconst 0, 1) := by decide +kernel
theorem dX12_refuse_14 : decode cX12_refuse 14 = .ok (.istore_n 1, 1) := by decide +kernel
theorem dX12_refuse_15 : decode cX12_refuse 15 = .ok (.iconst 0, 1) := by decide +kernel
theorem dX12_refuse_16 : decode cX12_refuse 16 = .ok (.istore_n 2, 1) := by decide +kernel
theorem dX12_refuse_17 : decode cX12_refuse 17 = .ok (.iload_n 2, 1) := by decide +kernel
theorem dX12_refuse_18 : decode cX12_refuse 18 = .ok (.aload_n 0, 1) := by decide +kernel
theorem dX12_refuse_19 : decode cX12_refuse 19 = .ok (.getfield 9, 3) := by decide +kernel
theorem dX12_refuse_22 : decode cX12_refuse 22 = .ok (.iconst 2, 1) := by decide +kernel
theorem dX12_refuse_23 : decode cX12_refuse 23 = .ok (.iaload, 1) := by decide +kernel
theorem dX12_refuse_24 : decode cX12_refuse 24 = .ok (.if_icmp .ge 34, 3) := by decide +kernel
theorem dX12_refuse_27 : decode cX12_refuse 27 = .ok (.iload_n 1, 1) := by decide +kernel
theorem dX12_refuse_28 : decode cX12_refuse 28 = .ok (.aload_n 0, 1) := by decide +kernel
theorem dX12_refuse_29 : decode cX12_refuse 29 = .ok (.getfield 51, 3) := by decide +kernel
theorem dX12_refuse_32 : decode cX12_refuse 32 = .ok (.iload_n 2, 1) := by decide +kernel
theorem dX12_refuse_33 : decode cX12_refuse 33 = .ok (.iaload, 1) := by decide +kernel
theorem dX12_refuse_34 : decode cX12_refuse 34 = .ok (.aload_n 0, 1) := by decide +kernel
theorem dX12_refuse_35 : decode cX12_refuse 35 = .ok (.iconst 0, 1) := by decide +kernel
theorem dX12_refuse_36 : decode cX12_refuse 36 = .ok (.iload_n 2, 1) := by decide +kernel
theorem dX12_refuse_37 : decode cX12_refuse 37 = .ok (.invokevirtual 355, 3) := by decide +kernel
theorem dX12_refuse_40 : decode cX12_refuse 40 = .ok (.if_icmp .ge 9, 3) := by decide +kernel
theorem dX12_refuse_43 : decode cX12_refuse 43 = .ok (.iconst 1, 1) := by decide +kernel
theorem dX12_refuse_44 : decode cX12_refuse 44 = .ok (.iload_n 2, 1) := by decide +kernel
theorem dX12_refuse_45 : decode cX12_refuse 45 = .ok (.ishl, 1) := by decide +kernel
theorem dX12_refuse_46 : decode cX12_refuse 46 = .ok (.goto 4, 3) := by decide +kernel
theorem dX12_refuse_49 : decode cX12_refuse 49 = .ok (.iconst 0, 1) := by decide +kernel
theorem dX12_refuse_50 : decode cX12_refuse 50 = .ok (.ior, 1) := by decide +kernel
theorem dX12_refuse_51 : decode cX12_refuse 51 = .ok (.istore_n 1, 1) := by decide +kernel
theorem dX12_refuse_52 : decode cX12_refuse 52 = .ok (.iinc 2 1, 3) := by decide +kernel
theorem dX12_refuse_55 : decode cX12_refuse 55 = .ok (.goto (-38), 3) := by decide +kernel
theorem dX12_refuse_58 : decode cX12_refuse 58 = .ok (.iload_n 1, 1) := by decide +kernel
theorem dX12_refuse_59 : decode cX12_refuse 59 = .ok (.ireturn, 1) := by decide +kernel
theorem dX12_fairest_0 : decode cX12_fairest 0 = .ok (.aload_n 0, 1) := by decide +kernel
theorem dX12_fairest_1 : decode cX12_fairest 1 = .ok (.bipush 6, 2) := by decide +kernel
theorem dX12_fairest_3 : decode cX12_fairest 3 = .ok (.iload_n 1, 1) := by decide +kernel
theorem dX12_fairest_4 : decode cX12_fairest 4 = .ok (.iload_n 2, 1) := by decide +kernel
theorem dX12_fairest_5 : decode cX12_fairest 5 = .ok (.invokevirtual 519, 3) := by decide +kernel
theorem dX12_fairest_8 : decode cX12_fairest 8 = .ok (.ireturn, 1) := by decide +kernel
theorem dX12_better_0 : decode cX12_better 0 = .ok (.aload_n 0, 1) := by decide +kernel
theorem dX12_better_1 : decode cX12_better 1 = .ok (.invokevirtual 552, 3) := by decide +kernel
theorem dX12_better_4 : decode cX12_better 4 = .ok (.aload_n 0, 1) := by decide +kernel
theorem dX12_better_5 : decode cX12_better 5 = .ok (.bipush 7, 2) := by decide +kernel
theorem dX12_better_7 : decode cX12_better 7 = .ok (.iload_n 1, 1) := by decide +kernel
theorem dX12_better_8 : decode cX12_better 8 = .ok (.invokevirtual 505, 3) := by decide +kernel
theorem dX12_better_11 : decode cX12_better 11 = .ok (.ireturn, 1) := by decide +kernel
theorem dX12_keenest_0 : decode cX12_keenest 0 = .ok (.aload_n 0, 1) := by decide +kernel
theorem dX12_keenest_1 : decode cX12_keenest 1 = .ok (.iconst 0, 1) := by decide +kernel
theorem dX12_keenest_2 : decode cX12_keenest 2 = .ok (.putfield 77, 3) := by decide +kernel
theorem dX12_keenest_5 : decode cX12_keenest 5 = .ok (.iload_n 1, 1) := by decide +kernel
theorem dX12_keenest_6 : decode cX12_keenest 6 = .ok (.invokestatic 499, 3) := by decide +kernel
theorem dX12_keenest_9 : decode cX12_keenest 9 = .ok (.ifCond .ne 9, 3) := by decide +kernel
theorem dX12_keenest_12 : decode cX12_keenest 12 = .ok (.aload_n 0, 1) := by decide +kernel
theorem dX12_keenest_13 : decode cX12_keenest 13 = .ok (.iconst 1, 1) := by decide +kernel
theorem dX12_keenest_14 : decode cX12_keenest 14 = .ok (.invokevirtual 244, 3) := by decide +kernel
theorem dX12_keenest_17 : decode cX12_keenest 17 = .ok (.ireturn, 1) := by decide +kernel
theorem dX12_keenest_18 : decode cX12_keenest 18 = .ok (.aload_n 0, 1) := by decide +kernel
theorem dX12_keenest_19 : decode cX12_keenest 19 = .ok (.invokevirtual 552, 3) := by decide +kernel
theorem dX12_keenest_22 : decode cX12_keenest 22 = .ok (.iconst (-1), 1) := by decide +kernel
theorem dX12_keenest_23 : decode cX12_keenest 23 = .ok (.istore_n 2, 1) := by decide +kernel
theorem dX12_keenest_24 : decode cX12_keenest 24 = .ok (.iconst (-1), 1) := by decide +kernel
theorem dX12_keenest_25 : decode cX12_keenest 25 = .ok (.istore_n 3, 1) := by decide +kernel
theorem dX12_keenest_26 : decode cX12_keenest 26 = .ok (.iconst 0, 1) := by decide +kernel
theorem dX12_keenest_27 : decode cX12_keenest 27 = .ok (.istore 4, 2) := by decide +kernel
theorem dX12_keenest_29 : decode cX12_keenest 29 = .ok (.iload 4, 2) := by decide +kernel
theorem dX12_keenest_31 : decode cX12_keenest 31 = .ok (.aload_n 0, 1) := by decide +kernel
theorem dX12_keenest_32 : decode cX12_keenest 32 = .ok (.getfield 9, 3) := by decide +kernel
theorem dX12_keenest_35 : decode cX12_keenest 35 = .ok (.iconst 2, 1) := by decide +kernel
theorem dX12_keenest_36 : decode cX12_keenest 36 = .ok (.iaload, 1) := by decide +kernel
theorem dX12_keenest_37 : decode cX12_keenest 37 = .ok (.if_icmp .ge 61, 3) := by decide +kernel
theorem dX12_keenest_40 : decode cX12_keenest 40 = .ok (.aload_n 0, 1) := by decide +kernel
theorem dX12_keenest_41 : decode cX12_keenest 41 = .ok (.iload 4, 2) := by decide +kernel
theorem dX12_keenest_43 : decode cX12_keenest 43 = .ok (.putfield 449, 3) := by decide +kernel
theorem dX12_keenest_46 : decode cX12_keenest 46 = .ok (.aload_n 0, 1) := by decide +kernel
theorem dX12_keenest_47 : decode cX12_keenest 47 = .ok (.bipush 8, 2) := by decide +kernel
theorem dX12_keenest_49 : decode cX12_keenest 49 = .ok (.aload_n 0, 1) := by decide +kernel
theorem dX12_keenest_50 : decode cX12_keenest 50 = .ok (.invokevirtual 343, 3) := by decide +kernel
theorem dX12_keenest_53 : decode cX12_keenest 53 = .ok (.iload_n 1, 1) := by decide +kernel
theorem dX12_keenest_54 : decode cX12_keenest 54 = .ok (.invokevirtual 502, 3) := by decide +kernel
theorem dX12_keenest_57 : decode cX12_keenest 57 = .ok (.aload_n 0, 1) := by decide +kernel
theorem dX12_keenest_58 : decode cX12_keenest 58 = .ok (.getfield 425, 3) := by decide +kernel
theorem dX12_keenest_61 : decode cX12_keenest 61 = .ok (.aload_n 0, 1) := by decide +kernel
theorem dX12_keenest_62 : decode cX12_keenest 62 = .ok (.getfield 51, 3) := by decide +kernel
theorem dX12_keenest_65 : decode cX12_keenest 65 = .ok (.iload 4, 2) := by decide +kernel
theorem dX12_keenest_67 : decode cX12_keenest 67 = .ok (.iaload, 1) := by decide +kernel
theorem dX12_keenest_68 : decode cX12_keenest 68 = .ok (.isub, 1) := by decide +kernel
theorem dX12_keenest_69 : decode cX12_keenest 69 = .ok (.iload_n 3, 1) := by decide +kernel
theorem dX12_keenest_70 : decode cX12_keenest 70 = .ok (.if_icmp .gt 6, 3) := by decide +kernel
theorem dX12_keenest_73 : decode cX12_keenest 73 = .ok (.goto 19, 3) := by decide +kernel
theorem dX12_keenest_76 : decode cX12_keenest 76 = .ok (.iload 4, 2) := by decide +kernel
theorem dX12_keenest_78 : decode cX12_keenest 78 = .ok (.istore_n 2, 1) := by decide +kernel
theorem dX12_keenest_79 : decode cX12_keenest 79 = .ok (.aload_n 0, 1) := by decide +kernel
theorem dX12_keenest_80 : decode cX12_keenest 80 = .ok (.getfield 425, 3) := by decide +kernel
theorem dX12_keenest_83 : decode cX12_keenest 83 = .ok (.aload_n 0, 1) := by decide +kernel
theorem dX12_keenest_84 : decode cX12_keenest 84 = .ok (.getfield 51, 3) := by decide +kernel
theorem dX12_keenest_87 : decode cX12_keenest 87 = .ok (.iload 4, 2) := by decide +kernel
theorem dX12_keenest_89 : decode cX12_keenest 89 = .ok (.iaload, 1) := by decide +kernel
theorem dX12_keenest_90 : decode cX12_keenest 90 = .ok (.isub, 1) := by decide +kernel
theorem dX12_keenest_91 : decode cX12_keenest 91 = .ok (.istore_n 3, 1) := by decide +kernel
theorem dX12_keenest_92 : decode cX12_keenest 92 = .ok (.iinc 4 1, 3) := by decide +kernel
theorem dX12_keenest_95 : decode cX12_keenest 95 = .ok (.goto (-66), 3) := by decide +kernel
theorem dX12_keenest_98 : decode cX12_keenest 98 = .ok (.iload_n 2, 1) := by decide +kernel
theorem dX12_keenest_99 : decode cX12_keenest 99 = .ok (.ireturn, 1) := by decide +kernel
theorem dX12_seesOne_0 : decode cX12_seesOne 0 = .ok (.aload_n 0, 1) := by decide +kernel
theorem dX12_seesOne_1 : decode cX12_seesOne 1 = .ok (.dup, 1) := by decide +kernel
theorem dX12_seesOne_2 : decode cX12_seesOne 2 = .ok (.getfield 452, 3) := by decide +kernel
theorem dX12_seesOne_5 : decode cX12_seesOne 5 = .ok (.iconst 1, 1) := by decide +kernel
theorem dX12_seesOne_6 : decode cX12_seesOne 6 = .ok (.iadd, 1) := by decide +kernel
theorem dX12_seesOne_7 : decode cX12_seesOne 7 = .ok (.putfield 452, 3) := by decide +kernel
theorem dX12_seesOne_10 : decode cX12_seesOne 10 = .ok (.aload_n 0, 1) := by decide +kernel
theorem dX12_seesOne_11 : decode cX12_seesOne 11 = .ok (.iload_n 1, 1) := by decide +kernel
theorem dX12_seesOne_12 : decode cX12_seesOne 12 = .ok (.invokevirtual 302, 3) := by decide +kernel
theorem dX12_seesOne_15 : decode cX12_seesOne 15 = .ok (.iconst 0, 1) := by decide +kernel
theorem dX12_seesOne_16 : decode cX12_seesOne 16 = .ok (.istore_n 2, 1) := by decide +kernel
theorem dX12_seesOne_17 : decode cX12_seesOne 17 = .ok (.iload_n 2, 1) := by decide +kernel
theorem dX12_seesOne_18 : decode cX12_seesOne 18 = .ok (.iconst 1, 1) := by decide +kernel
theorem dX12_seesOne_19 : decode cX12_seesOne 19 = .ok (.iadd, 1) := by decide +kernel
theorem dX12_seesOne_20 : decode cX12_seesOne 20 = .ok (.aload_n 0, 1) := by decide +kernel
theorem dX12_seesOne_21 : decode cX12_seesOne 21 = .ok (.invokevirtual 253, 3) := by decide +kernel
theorem dX12_seesOne_24 : decode cX12_seesOne 24 = .ok (.if_icmp .ge 31, 3) := by decide +kernel
theorem dX12_seesOne_27 : decode cX12_seesOne 27 = .ok (.aload_n 0, 1) := by decide +kernel
theorem dX12_seesOne_28 : decode cX12_seesOne 28 = .ok (.iload_n 2, 1) := by decide +kernel
theorem dX12_seesOne_29 : decode cX12_seesOne 29 = .ok (.invokevirtual 305, 3) := by decide +kernel
theorem dX12_seesOne_32 : decode cX12_seesOne 32 = .ok (.ifCond .ne 17, 3) := by decide +kernel
theorem dX12_seesOne_35 : decode cX12_seesOne 35 = .ok (.aload_n 0, 1) := by decide +kernel
theorem dX12_seesOne_36 : decode cX12_seesOne 36 = .ok (.dup, 1) := by decide +kernel
theorem dX12_seesOne_37 : decode cX12_seesOne 37 = .ok (.getfield 555, 3) := by decide +kernel
theorem dX12_seesOne_40 : decode cX12_seesOne 40 = .ok (.iconst 1, 1) := by decide +kernel
theorem dX12_seesOne_41 : decode cX12_seesOne 41 = .ok (.iload_n 2, 1) := by decide +kernel
theorem dX12_seesOne_42 : decode cX12_seesOne 42 = .ok (.ishl, 1) := by decide +kernel
theorem dX12_seesOne_43 : decode cX12_seesOne 43 = .ok (.iconst (-1), 1) := by decide +kernel
theorem dX12_seesOne_44 : decode cX12_seesOne 44 = .ok (.ixor, 1) := by decide +kernel
theorem dX12_seesOne_45 : decode cX12_seesOne 45 = .ok (.iand, 1) := by decide +kernel
theorem dX12_seesOne_46 : decode cX12_seesOne 46 = .ok (.putfield 555, 3) := by decide +kernel
theorem dX12_seesOne_49 : decode cX12_seesOne 49 = .ok (.iinc 2 1, 3) := by decide +kernel
theorem dX12_seesOne_52 : decode cX12_seesOne 52 = .ok (.goto (-35), 3) := by decide +kernel
theorem dX12_seesOne_55 : decode cX12_seesOne 55 = .ok (.iconst 0, 1) := by decide +kernel
theorem dX12_seesOne_56 : decode cX12_seesOne 56 = .ok (.istore_n 2, 1) := by decide +kernel
theorem dX12_seesOne_57 : decode cX12_seesOne 57 = .ok (.iload_n 2, 1) := by decide +kernel
theorem dX12_seesOne_58 : decode cX12_seesOne 58 = .ok (.aload_n 0, 1) := by decide +kernel
theorem dX12_seesOne_59 : decode cX12_seesOne 59 = .ok (.iload_n 1, 1) := by decide +kernel
theorem dX12_seesOne_60 : decode cX12_seesOne 60 = .ok (.invokevirtual 256, 3) := by decide +kernel
theorem dX12_seesOne_63 : decode cX12_seesOne 63 = .ok (.if_icmp .ge 29, 3) := by decide +kernel
theorem dX12_seesOne_66 : decode cX12_seesOne 66 = .ok (.aload_n 0, 1) := by decide +kernel
theorem dX12_seesOne_67 : decode cX12_seesOne 67 = .ok (.getfield 65, 3) := by decide +kernel
theorem dX12_seesOne_70 : decode cX12_seesOne 70 = .ok (.bipush 100, 2) := by decide +kernel
theorem dX12_seesOne_72 : decode cX12_seesOne 72 = .ok (.iload_n 2, 1) := by decide +kernel
theorem dX12_seesOne_73 : decode cX12_seesOne 73 = .ok (.imul, 1) := by decide +kernel
theorem dX12_seesOne_74 : decode cX12_seesOne 74 = .ok (.aload_n 0, 1) := by decide +kernel
theorem dX12_seesOne_75 : decode cX12_seesOne 75 = .ok (.iload_n 1, 1) := by decide +kernel
theorem dX12_seesOne_76 : decode cX12_seesOne 76 = .ok (.iload_n 2, 1) := by decide +kernel
theorem dX12_seesOne_77 : decode cX12_seesOne 77 = .ok (.invokevirtual 290, 3) := by decide +kernel
theorem dX12_seesOne_80 : decode cX12_seesOne 80 = .ok (.iadd, 1) := by decide +kernel
theorem dX12_seesOne_81 : decode cX12_seesOne 81 = .ok (.dup2, 1) := by decide +kernel
theorem dX12_seesOne_82 : decode cX12_seesOne 82 = .ok (.iaload, 1) := by decide +kernel
theorem dX12_seesOne_83 : decode cX12_seesOne 83 = .ok (.iconst 1, 1) := by decide +kernel
theorem dX12_seesOne_84 : decode cX12_seesOne 84 = .ok (.iadd, 1) := by decide +kernel
theorem dX12_seesOne_85 : decode cX12_seesOne 85 = .ok (.iastore, 1) := by decide +kernel
theorem dX12_seesOne_86 : decode cX12_seesOne 86 = .ok (.iinc 2 1, 3) := by decide +kernel
theorem dX12_seesOne_89 : decode cX12_seesOne 89 = .ok (.goto (-32), 3) := by decide +kernel
theorem dX12_seesOne_92 : decode cX12_seesOne 92 = .ok (.return_, 1) := by decide +kernel
theorem dX12_seenFault_0 : decode cX12_seenFault 0 = .ok (.aload_n 0, 1) := by decide +kernel
theorem dX12_seenFault_1 : decode cX12_seenFault 1 = .ok (.iload_n 1, 1) := by decide +kernel
theorem dX12_seenFault_2 : decode cX12_seenFault 2 = .ok (.invokevirtual 524, 3) := by decide +kernel
theorem dX12_seenFault_5 : decode cX12_seenFault 5 = .ok (.istore_n 3, 1) := by decide +kernel
theorem dX12_seenFault_6 : decode cX12_seenFault 6 = .ok (.iload_n 3, 1) := by decide +kernel
theorem dX12_seenFault_7 : decode cX12_seenFault 7 = .ok (.ifCond .ne 19, 3) := by decide +kernel
theorem dX12_seenFault_10 : decode cX12_seenFault 10 = .ok (.iload_n 2, 1) := by decide +kernel
theorem dX12_seenFault_11 : decode cX12_seenFault 11 = .ok (.i2l, 1) := by decide +kernel
theorem dX12_seenFault_12 : decode cX12_seenFault 12 = .ok (.lconst 0, 1) := by decide +kernel
theorem dX12_seenFault_13 : decode cX12_seenFault 13 = .ok (.ldc2_w 341, 3) := by decide +kernel
theorem dX12_seenFault_16 : decode cX12_seenFault 16 = .ok (.invokestatic 138, 3) := by decide +kernel
theorem dX12_seenFault_19 : decode cX12_seenFault 19 = .ok (.ifCond .ne 7, 3) := by decide +kernel
theorem dX12_seenFault_22 : decode cX12_seenFault 22 = .ok (.iconst 3, 1) := by decide +kernel
theorem dX12_seenFault_23 : decode cX12_seenFault 23 = .ok (.goto 4, 3) := by decide +kernel
theorem dX12_seenFault_26 : decode cX12_seenFault 26 = .ok (.iload_n 3, 1) := by decide +kernel
theorem dX12_seenFault_27 : decode cX12_seenFault 27 = .ok (.ireturn, 1) := by decide +kernel
theorem dX12_laysSeen_0 : decode cX12_laysSeen 0 = .ok (.aload_n 0, 1) := by decide +kernel
theorem dX12_laysSeen_1 : decode cX12_laysSeen 1 = .ok (.iload_n 1, 1) := by decide +kernel
theorem dX12_laysSeen_2 : decode cX12_laysSeen 2 = .ok (.putfield 449, 3) := by decide +kernel
theorem dX12_laysSeen_5 : decode cX12_laysSeen 5 = .ok (.aload_n 0, 1) := by decide +kernel
theorem dX12_laysSeen_6 : decode cX12_laysSeen 6 = .ok (.aload_n 0, 1) := by decide +kernel
theorem dX12_laysSeen_7 : decode cX12_laysSeen 7 = .ok (.invokevirtual 253, 3) := by decide +kernel
theorem dX12_laysSeen_10 : decode cX12_laysSeen 10 = .ok (.ifCond .ne 7, 3) := by decide +kernel
theorem dX12_laysSeen_13 : decode cX12_laysSeen 13 = .ok (.iconst 0, 1) := by decide +kernel
theorem dX12_laysSeen_14 : decode cX12_laysSeen 14 = .ok (.goto 13, 3) := by decide +kernel
theorem dX12_laysSeen_17 : decode cX12_laysSeen 17 = .ok (.iconst 1, 1) := by decide +kernel
theorem dX12_laysSeen_18 : decode cX12_laysSeen 18 = .ok (.aload_n 0, 1) := by decide +kernel
theorem dX12_laysSeen_19 : decode cX12_laysSeen 19 = .ok (.invokevirtual 253, 3) := by decide +kernel
theorem dX12_laysSeen_22 : decode cX12_laysSeen 22 = .ok (.iconst 1, 1) := by decide +kernel
theorem dX12_laysSeen_23 : decode cX12_laysSeen 23 = .ok (.isub, 1) := by decide +kernel
theorem dX12_laysSeen_24 : decode cX12_laysSeen 24 = .ok (.ishl, 1) := by decide +kernel
theorem dX12_laysSeen_25 : decode cX12_laysSeen 25 = .ok (.iconst 1, 1) := by decide +kernel
theorem dX12_laysSeen_26 : decode cX12_laysSeen 26 = .ok (.isub, 1) := by decide +kernel
theorem dX12_laysSeen_27 : decode cX12_laysSeen 27 = .ok (.putfield 555, 3) := by decide +kernel
theorem dX12_laysSeen_30 : decode cX12_laysSeen 30 = .ok (.iconst 0, 1) := by decide +kernel
theorem dX12_laysSeen_31 : decode cX12_laysSeen 31 = .ok (.istore_n 3, 1) := by decide +kernel
theorem dX12_laysSeen_32 : decode cX12_laysSeen 32 = .ok (.iload_n 3, 1) := by decide +kernel
theorem dX12_laysSeen_33 : decode cX12_laysSeen 33 = .ok (.sipush 600, 3) := by decide +kernel
theorem dX12_laysSeen_36 : decode cX12_laysSeen 36 = .ok (.if_icmp .ge 16, 3) := by decide +kernel
theorem dX12_laysSeen_39 : decode cX12_laysSeen 39 = .ok (.aload_n 0, 1) := by decide +kernel
theorem dX12_laysSeen_40 : decode cX12_laysSeen 40 = .ok (.getfield 65, 3) := by decide +kernel
theorem dX12_laysSeen_43 : decode cX12_laysSeen 43 = .ok (.iload_n 3, 1) := by decide +kernel
theorem dX12_laysSeen_44 : decode cX12_laysSeen 44 = .ok (.iconst 0, 1) := by decide +kernel
theorem dX12_laysSeen_45 : decode cX12_laysSeen 45 = .ok (.iastore, 1) := by decide +kernel
theorem dX12_laysSeen_46 : decode cX12_laysSeen 46 = .ok (.iinc 3 1, 3) := by decide +kernel
theorem dX12_laysSeen_49 : decode cX12_laysSeen 49 = .ok (.goto (-17), 3) := by decide +kernel
theorem dX12_laysSeen_52 : decode cX12_laysSeen 52 = .ok (.aload_n 0, 1) := by decide +kernel
theorem dX12_laysSeen_53 : decode cX12_laysSeen 53 = .ok (.invokevirtual 277, 3) := by decide +kernel
theorem dX12_laysSeen_56 : decode cX12_laysSeen 56 = .ok (.aload_n 0, 1) := by decide +kernel
theorem dX12_laysSeen_57 : decode cX12_laysSeen 57 = .ok (.bipush 13, 2) := by decide +kernel
theorem dX12_laysSeen_59 : decode cX12_laysSeen 59 = .ok (.iconst 0, 1) := by decide +kernel
theorem dX12_laysSeen_60 : decode cX12_laysSeen 60 = .ok (.iload_n 2, 1) := by decide +kernel
theorem dX12_laysSeen_61 : decode cX12_laysSeen 61 = .ok (.invokevirtual 502, 3) := by decide +kernel
theorem dX12_laysSeen_64 : decode cX12_laysSeen 64 = .ok (.return_, 1) := by decide +kernel
theorem dX12_seen_0 : decode cX12_seen 0 = .ok (.aload_n 0, 1) := by decide +kernel
theorem dX12_seen_1 : decode cX12_seen 1 = .ok (.aload_n 0, 1) := by decide +kernel
theorem dX12_seen_2 : decode cX12_seen 2 = .ok (.iload_n 1, 1) := by decide +kernel
theorem dX12_seen_3 : decode cX12_seen 3 = .ok (.iload_n 2, 1) := by decide +kernel
theorem dX12_seen_4 : decode cX12_seen 4 = .ok (.invokevirtual 558, 3) := by decide +kernel
theorem dX12_seen_7 : decode cX12_seen 7 = .ok (.putfield 77, 3) := by decide +kernel
theorem dX12_seen_10 : decode cX12_seen 10 = .ok (.aload_n 0, 1) := by decide +kernel
theorem dX12_seen_11 : decode cX12_seen 11 = .ok (.getfield 77, 3) := by decide +kernel
theorem dX12_seen_14 : decode cX12_seen 14 = .ok (.ifCond .le 5, 3) := by decide +kernel
theorem dX12_seen_17 : decode cX12_seen 17 = .ok (.iconst 0, 1) := by decide +kernel
theorem dX12_seen_18 : decode cX12_seen 18 = .ok (.ireturn, 1) := by decide +kernel
theorem dX12_seen_19 : decode cX12_seen 19 = .ok (.aload_n 0, 1) := by decide +kernel
theorem dX12_seen_20 : decode cX12_seen 20 = .ok (.iload_n 1, 1) := by decide +kernel
theorem dX12_seen_21 : decode cX12_seen 21 = .ok (.iload_n 2, 1) := by decide +kernel
theorem dX12_seen_22 : decode cX12_seen 22 = .ok (.invokevirtual 561, 3) := by decide +kernel
theorem dX12_seen_25 : decode cX12_seen 25 = .ok (.aload_n 0, 1) := by decide +kernel
theorem dX12_seen_26 : decode cX12_seen 26 = .ok (.getfield 452, 3) := by decide +kernel
theorem dX12_seen_29 : decode cX12_seen 29 = .ok (.ireturn, 1) := by decide +kernel
theorem dX12_sure_0 : decode cX12_sure 0 = .ok (.aload_n 0, 1) := by decide +kernel
theorem dX12_sure_1 : decode cX12_sure 1 = .ok (.aload_n 0, 1) := by decide +kernel
theorem dX12_sure_2 : decode cX12_sure 2 = .ok (.iload_n 1, 1) := by decide +kernel
theorem dX12_sure_3 : decode cX12_sure 3 = .ok (.iload_n 2, 1) := by decide +kernel
theorem dX12_sure_4 : decode cX12_sure 4 = .ok (.invokevirtual 558, 3) := by decide +kernel
theorem dX12_sure_7 : decode cX12_sure 7 = .ok (.putfield 77, 3) := by decide +kernel
theorem dX12_sure_10 : decode cX12_sure 10 = .ok (.aload_n 0, 1) := by decide +kernel
theorem dX12_sure_11 : decode cX12_sure 11 = .ok (.getfield 77, 3) := by decide +kernel
theorem dX12_sure_14 : decode cX12_sure 14 = .ok (.ifCond .le 5, 3) := by decide +kernel
theorem dX12_sure_17 : decode cX12_sure 17 = .ok (.iconst 0, 1) := by decide +kernel
theorem dX12_sure_18 : decode cX12_sure 18 = .ok (.ireturn, 1) := by decide +kernel
theorem dX12_sure_19 : decode cX12_sure 19 = .ok (.aload_n 0, 1) := by decide +kernel
theorem dX12_sure_20 : decode cX12_sure 20 = .ok (.iload_n 1, 1) := by decide +kernel
theorem dX12_sure_21 : decode cX12_sure 21 = .ok (.iload_n 2, 1) := by decide +kernel
theorem dX12_sure_22 : decode cX12_sure 22 = .ok (.invokevirtual 561, 3) := by decide +kernel
theorem dX12_sure_25 : decode cX12_sure 25 = .ok (.aload_n 0, 1) := by decide +kernel
theorem dX12_sure_26 : decode cX12_sure 26 = .ok (.getfield 452, 3) := by decide +kernel
theorem dX12_sure_29 : decode cX12_sure 29 = .ok (.ifCond .ne 7, 3) := by decide +kernel
theorem dX12_sure_32 : decode cX12_sure 32 = .ok (.iconst 0, 1) := by decide +kernel
theorem dX12_sure_33 : decode cX12_sure 33 = .ok (.goto 7, 3) := by decide +kernel
theorem dX12_sure_36 : decode cX12_sure 36 = .ok (.aload_n 0, 1) := by decide +kernel
theorem dX12_sure_37 : decode cX12_sure 37 = .ok (.getfield 555, 3) := by decide +kernel
theorem dX12_sure_40 : decode cX12_sure 40 = .ok (.ireturn, 1) := by decide +kernel
theorem dX12_look_0 : decode cX12_look 0 = .ok (.aload_n 0, 1) := by decide +kernel
theorem dX12_look_1 : decode cX12_look 1 = .ok (.aload_n 0, 1) := by decide +kernel
theorem dX12_look_2 : decode cX12_look 2 = .ok (.iload_n 1, 1) := by decide +kernel
theorem dX12_look_3 : decode cX12_look 3 = .ok (.iload_n 2, 1) := by decide +kernel
theorem dX12_look_4 : decode cX12_look 4 = .ok (.invokevirtual 558, 3) := by decide +kernel
theorem dX12_look_7 : decode cX12_look 7 = .ok (.putfield 77, 3) := by decide +kernel
theorem dX12_look_10 : decode cX12_look 10 = .ok (.aload_n 0, 1) := by decide +kernel
theorem dX12_look_11 : decode cX12_look 11 = .ok (.getfield 77, 3) := by decide +kernel
theorem dX12_look_14 : decode cX12_look 14 = .ok (.ifCond .le 5, 3) := by decide +kernel
theorem dX12_look_17 : decode cX12_look 17 = .ok (.iconst 0, 1) := by decide +kernel
theorem dX12_look_18 : decode cX12_look 18 = .ok (.ireturn, 1) := by decide +kernel
theorem dX12_look_19 : decode cX12_look 19 = .ok (.aload_n 0, 1) := by decide +kernel
theorem dX12_look_20 : decode cX12_look 20 = .ok (.iload_n 1, 1) := by decide +kernel
theorem dX12_look_21 : decode cX12_look 21 = .ok (.iload_n 2, 1) := by decide +kernel
theorem dX12_look_22 : decode cX12_look 22 = .ok (.invokevirtual 561, 3) := by decide +kernel
theorem dX12_look_25 : decode cX12_look 25 = .ok (.iconst (-1), 1) := by decide +kernel
theorem dX12_look_26 : decode cX12_look 26 = .ok (.istore_n 3, 1) := by decide +kernel
theorem dX12_look_27 : decode cX12_look 27 = .ok (.ldc_w 431, 3) := by decide +kernel
theorem dX12_look_30 : decode cX12_look 30 = .ok (.istore 4, 2) := by decide +kernel
theorem dX12_look_32 : decode cX12_look 32 = .ok (.iconst 0, 1) := by decide +kernel
theorem dX12_look_33 : decode cX12_look 33 = .ok (.istore 5, 2) := by decide +kernel
theorem dX12_look_35 : decode cX12_look 35 = .ok (.iload 5, 2) := by decide +kernel
theorem dX12_look_37 : decode cX12_look 37 = .ok (.aload_n 0, 1) := by decide +kernel
theorem dX12_look_38 : decode cX12_look 38 = .ok (.getfield 71, 3) := by decide +kernel
theorem dX12_look_41 : decode cX12_look 41 = .ok (.iload_n 1, 1) := by decide +kernel
theorem dX12_look_42 : decode cX12_look 42 = .ok (.iaload, 1) := by decide +kernel
theorem dX12_look_43 : decode cX12_look 43 = .ok (.if_icmp .ge 72, 3) := by decide +kernel
theorem dX12_look_46 : decode cX12_look 46 = .ok (.aload_n 0, 1) := by decide +kernel
theorem dX12_look_47 : decode cX12_look 47 = .ok (.getfield 452, 3) := by decide +kernel
theorem dX12_look_50 : decode cX12_look 50 = .ok (.ifCond .le 65, 3) := by decide +kernel
theorem dX12_look_53 : decode cX12_look 53 = .ok (.iconst 0, 1) := by decide +kernel
theorem dX12_look_54 : decode cX12_look 54 = .ok (.istore 6, 2) := by decide +kernel
theorem dX12_look_56 : decode cX12_look 56 = .ok (.iconst 0, 1) := by decide +kernel
theorem dX12_look_57 : decode cX12_look 57 = .ok (.istore 7, 2) := by decide +kernel
theorem dX12_look_59 : decode cX12_look 59 = .ok (.iload 7, 2) := by decide +kernel
theorem dX12_look_61 : decode cX12_look 61 = .ok (.bipush 100, 2) := by decide +kernel
theorem dX12_look_63 : decode cX12_look 63 = .ok (.if_icmp .ge 29, 3) := by decide +kernel
theorem dX12_look_66 : decode cX12_look 66 = .ok (.iload 6, 2) := by decide +kernel
theorem dX12_look_68 : decode cX12_look 68 = .ok (.aload_n 0, 1) := by decide +kernel
theorem dX12_look_69 : decode cX12_look 69 = .ok (.getfield 65, 3) := by decide +kernel
theorem dX12_look_72 : decode cX12_look 72 = .ok (.bipush 100, 2) := by decide +kernel
theorem dX12_look_74 : decode cX12_look 74 = .ok (.iload 5, 2) := by decide +kernel
theorem dX12_look_76 : decode cX12_look 76 = .ok (.imul, 1) := by decide +kernel
theorem dX12_look_77 : decode cX12_look 77 = .ok (.iload 7, 2) := by decide +kernel
theorem dX12_look_79 : decode cX12_look 79 = .ok (.iadd, 1) := by decide +kernel
theorem dX12_look_80 : decode cX12_look 80 = .ok (.iaload, 1) := by decide +kernel
theorem dX12_look_81 : decode cX12_look 81 = .ok (.invokestatic 268, 3) := by decide +kernel
theorem dX12_look_84 : decode cX12_look 84 = .ok (.istore 6, 2) := by decide +kernel
theorem dX12_look_86 : decode cX12_look 86 = .ok (.iinc 7 1, 3) := by decide +kernel
theorem dX12_look_89 : decode cX12_look 89 = .ok (.goto (-30), 3) := by decide +kernel
theorem dX12_look_92 : decode cX12_look 92 = .ok (.iload 6, 2) := by decide +kernel
theorem dX12_look_94 : decode cX12_look 94 = .ok (.iload 4, 2) := by decide +kernel
theorem dX12_look_96 : decode cX12_look 96 = .ok (.if_icmp .lt 6, 3) := by decide +kernel
theorem dX12_look_99 : decode cX12_look 99 = .ok (.goto 10, 3) := by decide +kernel
theorem dX12_look_102 : decode cX12_look 102 = .ok (.iload 5, 2) := by decide +kernel
theorem dX12_look_104 : decode cX12_look 104 = .ok (.istore_n 3, 1) := by decide +kernel
theorem dX12_look_105 : decode cX12_look 105 = .ok (.iload 6, 2) := by decide +kernel
theorem dX12_look_107 : decode cX12_look 107 = .ok (.istore 4, 2) := by decide +kernel
theorem dX12_look_109 : decode cX12_look 109 = .ok (.iinc 5 1, 3) := by decide +kernel
theorem dX12_look_112 : decode cX12_look 112 = .ok (.goto (-77), 3) := by decide +kernel
theorem dX12_look_115 : decode cX12_look 115 = .ok (.iload_n 3, 1) := by decide +kernel
theorem dX12_look_116 : decode cX12_look 116 = .ok (.ireturn, 1) := by decide +kernel
theorem dX12_isTray_0 : decode cX12_isTray 0 = .ok (.iload_n 0, 1) := by decide +kernel
theorem dX12_isTray_1 : decode cX12_isTray 1 = .ok (.i2l, 1) := by decide +kernel
theorem dX12_isTray_2 : decode cX12_isTray 2 = .ok (.lconst 0, 1) := by decide +kernel
theorem dX12_isTray_3 : decode cX12_isTray 3 = .ok (.ldc2_w 259, 3) := by decide +kernel
theorem dX12_isTray_6 : decode cX12_isTray 6 = .ok (.invokestatic 138, 3) := by decide +kernel
theorem dX12_isTray_9 : decode cX12_isTray 9 = .ok (.ireturn, 1) := by decide +kernel
theorem dX12_tray_0 : decode cX12_tray 0 = .ok (.aload_n 0, 1) := by decide +kernel
theorem dX12_tray_1 : decode cX12_tray 1 = .ok (.iload_n 1, 1) := by decide +kernel
theorem dX12_tray_2 : decode cX12_tray 2 = .ok (.invokestatic 372, 3) := by decide +kernel
theorem dX12_tray_5 : decode cX12_tray 5 = .ok (.ifCond .ne 7, 3) := by decide +kernel
theorem dX12_tray_8 : decode cX12_tray 8 = .ok (.iconst 1, 1) := by decide +kernel
theorem dX12_tray_9 : decode cX12_tray 9 = .ok (.goto 32, 3) := by decide +kernel
theorem dX12_tray_12 : decode cX12_tray 12 = .ok (.iload_n 2, 1) := by decide +kernel
theorem dX12_tray_13 : decode cX12_tray 13 = .ok (.i2l, 1) := by decide +kernel
theorem dX12_tray_14 : decode cX12_tray 14 = .ok (.lconst 0, 1) := by decide +kernel
theorem dX12_tray_15 : decode cX12_tray 15 = .ok (.ldc2_w 259, 3) := by decide +kernel
theorem dX12_tray_18 : decode cX12_tray 18 = .ok (.invokestatic 138, 3) := by decide +kernel
theorem dX12_tray_21 : decode cX12_tray 21 = .ok (.ifCond .eq 15, 3) := by decide +kernel
theorem dX12_tray_24 : decode cX12_tray 24 = .ok (.iload_n 3, 1) := by decide +kernel
theorem dX12_tray_25 : decode cX12_tray 25 = .ok (.i2l, 1) := by decide +kernel
theorem dX12_tray_26 : decode cX12_tray 26 = .ok (.lconst 0, 1) := by decide +kernel
theorem dX12_tray_27 : decode cX12_tray 27 = .ok (.ldc2_w 408, 3) := by decide +kernel
theorem dX12_tray_30 : decode cX12_tray 30 = .ok (.invokestatic 138, 3) := by decide +kernel
theorem dX12_tray_33 : decode cX12_tray 33 = .ok (.ifCond .ne 7, 3) := by decide +kernel
theorem dX12_tray_36 : decode cX12_tray 36 = .ok (.iconst 2, 1) := by decide +kernel
theorem dX12_tray_37 : decode cX12_tray 37 = .ok (.goto 4, 3) := by decide +kernel
theorem dX12_tray_40 : decode cX12_tray 40 = .ok (.iconst 0, 1) := by decide +kernel
theorem dX12_tray_41 : decode cX12_tray 41 = .ok (.putfield 77, 3) := by decide +kernel
theorem dX12_tray_44 : decode cX12_tray 44 = .ok (.aload_n 0, 1) := by decide +kernel
theorem dX12_tray_45 : decode cX12_tray 45 = .ok (.getfield 77, 3) := by decide +kernel
theorem dX12_tray_48 : decode cX12_tray 48 = .ok (.ifCond .le 4, 3) := by decide +kernel
theorem dX12_tray_51 : decode cX12_tray 51 = .ok (.return_, 1) := by decide +kernel
theorem dX12_tray_52 : decode cX12_tray 52 = .ok (.aload_n 0, 1) := by decide +kernel
theorem dX12_tray_53 : decode cX12_tray 53 = .ok (.getfield 68, 3) := by decide +kernel
theorem dX12_tray_56 : decode cX12_tray 56 = .ok (.iload_n 1, 1) := by decide +kernel
theorem dX12_tray_57 : decode cX12_tray 57 = .ok (.iload_n 2, 1) := by decide +kernel
theorem dX12_tray_58 : decode cX12_tray 58 = .ok (.iastore, 1) := by decide +kernel
theorem dX12_tray_59 : decode cX12_tray 59 = .ok (.aload_n 0, 1) := by decide +kernel
theorem dX12_tray_60 : decode cX12_tray 60 = .ok (.getfield 71, 3) := by decide +kernel
theorem dX12_tray_63 : decode cX12_tray 63 = .ok (.iload_n 1, 1) := by decide +kernel
theorem dX12_tray_64 : decode cX12_tray 64 = .ok (.iload_n 3, 1) := by decide +kernel
theorem dX12_tray_65 : decode cX12_tray 65 = .ok (.iastore, 1) := by decide +kernel
theorem dX12_tray_66 : decode cX12_tray 66 = .ok (.iconst 0, 1) := by decide +kernel
theorem dX12_tray_67 : decode cX12_tray 67 = .ok (.istore 4, 2) := by decide +kernel
theorem dX12_tray_69 : decode cX12_tray 69 = .ok (.iload 4, 2) := by decide +kernel
theorem dX12_tray_71 : decode cX12_tray 71 = .ok (.bipush 30, 2) := by decide +kernel
theorem dX12_tray_73 : decode cX12_tray 73 = .ok (.if_icmp .ge 22, 3) := by decide +kernel
theorem dX12_tray_76 : decode cX12_tray 76 = .ok (.aload_n 0, 1) := by decide +kernel
theorem dX12_tray_77 : decode cX12_tray 77 = .ok (.getfield 74, 3) := by decide +kernel
theorem dX12_tray_80 : decode cX12_tray 80 = .ok (.bipush 30, 2) := by decide +kernel
theorem dX12_tray_82 : decode cX12_tray 82 = .ok (.iload_n 1, 1) := by decide +kernel
theorem dX12_tray_83 : decode cX12_tray 83 = .ok (.imul, 1) := by decide +kernel
theorem dX12_tray_84 : decode cX12_tray 84 = .ok (.iload 4, 2) := by decide +kernel
theorem dX12_tray_86 : decode cX12_tray 86 = .ok (.iadd, 1) := by decide +kernel
theorem dX12_tray_87 : decode cX12_tray 87 = .ok (.lconst 0, 1) := by decide +kernel
theorem dX12_tray_88 : decode cX12_tray 88 = .ok (.lastore, 1) := by decide +kernel
theorem dX12_tray_89 : decode cX12_tray 89 = .ok (.iinc 4 1, 3) := by decide +kernel
theorem dX12_tray_92 : decode cX12_tray 92 = .ok (.goto (-23), 3) := by decide +kernel
theorem dX12_tray_95 : decode cX12_tray 95 = .ok (.return_, 1) := by decide +kernel
theorem dX12_cut_0 : decode cX12_cut 0 = .ok (.bipush 64, 2) := by decide +kernel
theorem dX12_cut_2 : decode cX12_cut 2 = .ok (.bipush 8, 2) := by decide +kernel
theorem dX12_cut_4 : decode cX12_cut 4 = .ok (.aload_n 0, 1) := by decide +kernel
theorem dX12_cut_5 : decode cX12_cut 5 = .ok (.getfield 68, 3) := by decide +kernel
theorem dX12_cut_8 : decode cX12_cut 8 = .ok (.iload_n 1, 1) := by decide +kernel
theorem dX12_cut_9 : decode cX12_cut 9 = .ok (.iaload, 1) := by decide +kernel
theorem dX12_cut_10 : decode cX12_cut 10 = .ok (.ishl, 1) := by decide +kernel
theorem dX12_cut_11 : decode cX12_cut 11 = .ok (.isub, 1) := by decide +kernel
theorem dX12_cut_12 : decode cX12_cut 12 = .ok (.istore 5, 2) := by decide +kernel
theorem dX12_cut_14 : decode cX12_cut 14 = .ok (.aload_n 0, 1) := by decide +kernel
theorem dX12_cut_15 : decode cX12_cut 15 = .ok (.getfield 74, 3) := by decide +kernel
theorem dX12_cut_18 : decode cX12_cut 18 = .ok (.bipush 30, 2) := by decide +kernel
theorem dX12_cut_20 : decode cX12_cut 20 = .ok (.iload_n 1, 1) := by decide +kernel
theorem dX12_cut_21 : decode cX12_cut 21 = .ok (.imul, 1) := by decide +kernel
theorem dX12_cut_22 : decode cX12_cut 22 = .ok (.iload_n 2, 1) := by decide +kernel
theorem dX12_cut_23 : decode cX12_cut 23 = .ok (.iadd, 1) := by decide +kernel
theorem dX12_cut_24 : decode cX12_cut 24 = .ok (.lload_n 3, 1) := by decide +kernel
theorem dX12_cut_25 : decode cX12_cut 25 = .ok (.iload 5, 2) := by decide +kernel
theorem dX12_cut_27 : decode cX12_cut 27 = .ok (.lshl, 1) := by decide +kernel
theorem dX12_cut_28 : decode cX12_cut 28 = .ok (.iload 5, 2) := by decide +kernel
theorem dX12_cut_30 : decode cX12_cut 30 = .ok (.lshr, 1) := by decide +kernel
theorem dX12_cut_31 : decode cX12_cut 31 = .ok (.lastore, 1) := by decide +kernel
theorem dX12_cut_32 : decode cX12_cut 32 = .ok (.aload_n 0, 1) := by decide +kernel
theorem dX12_cut_33 : decode cX12_cut 33 = .ok (.getfield 74, 3) := by decide +kernel
theorem dX12_cut_36 : decode cX12_cut 36 = .ok (.bipush 30, 2) := by decide +kernel
theorem dX12_cut_38 : decode cX12_cut 38 = .ok (.iload_n 1, 1) := by decide +kernel
theorem dX12_cut_39 : decode cX12_cut 39 = .ok (.imul, 1) := by decide +kernel
theorem dX12_cut_40 : decode cX12_cut 40 = .ok (.iload_n 2, 1) := by decide +kernel
theorem dX12_cut_41 : decode cX12_cut 41 = .ok (.iadd, 1) := by decide +kernel
theorem dX12_cut_42 : decode cX12_cut 42 = .ok (.laload, 1) := by decide +kernel
theorem dX12_cut_43 : decode cX12_cut 43 = .ok (.lreturn, 1) := by decide +kernel
theorem dX12_write_0 : decode cX12_write 0 = .ok (.aload_n 0, 1) := by decide +kernel
theorem dX12_write_1 : decode cX12_write 1 = .ok (.aload_n 0, 1) := by decide +kernel
theorem dX12_write_2 : decode cX12_write 2 = .ok (.iload_n 1, 1) := by decide +kernel
theorem dX12_write_3 : decode cX12_write 3 = .ok (.invokevirtual 389, 3) := by decide +kernel
theorem dX12_write_6 : decode cX12_write 6 = .ok (.putfield 77, 3) := by decide +kernel
theorem dX12_write_9 : decode cX12_write 9 = .ok (.aload_n 0, 1) := by decide +kernel
theorem dX12_write_10 : decode cX12_write 10 = .ok (.getfield 77, 3) := by decide +kernel
theorem dX12_write_13 : decode cX12_write 13 = .ok (.ifCond .le 5, 3) := by decide +kernel
theorem dX12_write_16 : decode cX12_write 16 = .ok (.lconst 0, 1) := by decide +kernel
theorem dX12_write_17 : decode cX12_write 17 = .ok (.lreturn, 1) := by decide +kernel
theorem dX12_write_18 : decode cX12_write 18 = .ok (.iload_n 2, 1) := by decide +kernel
theorem dX12_write_19 : decode cX12_write 19 = .ok (.i2l, 1) := by decide +kernel
theorem dX12_write_20 : decode cX12_write 20 = .ok (.lconst 0, 1) := by decide +kernel
theorem dX12_write_21 : decode cX12_write 21 = .ok (.aload_n 0, 1) := by decide +kernel
theorem dX12_write_22 : decode cX12_write 22 = .ok (.getfield 71, 3) := by decide +kernel
theorem dX12_write_25 : decode cX12_write 25 = .ok (.iload_n 1, 1) := by decide +kernel
theorem dX12_write_26 : decode cX12_write 26 = .ok (.iaload, 1) := by decide +kernel
theorem dX12_write_27 : decode cX12_write 27 = .ok (.iconst 1, 1) := by decide +kernel
theorem dX12_write_28 : decode cX12_write 28 = .ok (.isub, 1) := by decide +kernel
theorem dX12_write_29 : decode cX12_write 29 = .ok (.i2l, 1) := by decide +kernel
theorem dX12_write_30 : decode cX12_write 30 = .ok (.invokestatic 138, 3) := by decide +kernel
theorem dX12_write_33 : decode cX12_write 33 = .ok (.ifCond .eq 13, 3) := by decide +kernel
theorem dX12_write_36 : decode cX12_write 36 = .ok (.aload_n 0, 1) := by decide +kernel
theorem dX12_write_37 : decode cX12_write 37 = .ok (.iload_n 1, 1) := by decide +kernel
theorem dX12_write_38 : decode cX12_write 38 = .ok (.iload_n 2, 1) := by decide +kernel
theorem dX12_write_39 : decode cX12_write 39 = .ok (.lload_n 3, 1) := by decide +kernel
theorem dX12_write_40 : decode cX12_write 40 = .ok (.invokevirtual 564, 3) := by decide +kernel
theorem dX12_write_43 : decode cX12_write 43 = .ok (.goto 9, 3) := by decide +kernel
theorem dX12_write_46 : decode cX12_write 46 = .ok (.aload_n 0, 1) := by decide +kernel
theorem dX12_write_47 : decode cX12_write 47 = .ok (.iconst 3, 1) := by decide +kernel
theorem dX12_write_48 : decode cX12_write 48 = .ok (.invokevirtual 244, 3) := by decide +kernel
theorem dX12_write_51 : decode cX12_write 51 = .ok (.i2l, 1) := by decide +kernel
theorem dX12_write_52 : decode cX12_write 52 = .ok (.lreturn, 1) := by decide +kernel
theorem dX12_copy_0 : decode cX12_copy 0 = .ok (.aload_n 0, 1) := by decide +kernel
theorem dX12_copy_1 : decode cX12_copy 1 = .ok (.aload_n 0, 1) := by decide +kernel
theorem dX12_copy_2 : decode cX12_copy 2 = .ok (.iload_n 1, 1) := by decide +kernel
theorem dX12_copy_3 : decode cX12_copy 3 = .ok (.invokevirtual 389, 3) := by decide +kernel
theorem dX12_copy_6 : decode cX12_copy 6 = .ok (.putfield 77, 3) := by decide +kernel
theorem dX12_copy_9 : decode cX12_copy 9 = .ok (.aload_n 0, 1) := by decide +kernel
theorem dX12_copy_10 : decode cX12_copy 10 = .ok (.getfield 77, 3) := by decide +kernel
theorem dX12_copy_13 : decode cX12_copy 13 = .ok (.ifCond .le 5, 3) := by decide +kernel
theorem dX12_copy_16 : decode cX12_copy 16 = .ok (.iconst 0, 1) := by decide +kernel
theorem dX12_copy_17 : decode cX12_copy 17 = .ok (.ireturn, 1) := by decide +kernel
theorem dX12_copy_18 : decode cX12_copy 18 = .ok (.aload_n 0, 1) := by decide +kernel
theorem dX12_copy_19 : decode cX12_copy 19 = .ok (.invokevirtual 343, 3) := by decide +kernel
theorem dX12_copy_22 : decode cX12_copy 22 = .ok (.istore_n 2, 1) := by decide +kernel
theorem dX12_copy_23 : decode cX12_copy 23 = .ok (.aload_n 0, 1) := by decide +kernel
theorem dX12_copy_24 : decode cX12_copy 24 = .ok (.getfield 71, 3) := by decide +kernel
theorem dX12_copy_27 : decode cX12_copy 27 = .ok (.iload_n 1, 1) := by decide +kernel
theorem dX12_copy_28 : decode cX12_copy 28 = .ok (.iaload, 1) := by decide +kernel
theorem dX12_copy_29 : decode cX12_copy 29 = .ok (.aload_n 0, 1) := by decide +kernel
theorem dX12_copy_30 : decode cX12_copy 30 = .ok (.iload_n 2, 1) := by decide +kernel
theorem dX12_copy_31 : decode cX12_copy 31 = .ok (.invokevirtual 256, 3) := by decide +kernel
theorem dX12_copy_34 : decode cX12_copy 34 = .ok (.invokestatic 299, 3) := by decide +kernel
theorem dX12_copy_37 : decode cX12_copy 37 = .ok (.istore_n 3, 1) := by decide +kernel
theorem dX12_copy_38 : decode cX12_copy 38 = .ok (.iconst 0, 1) := by decide +kernel
theorem dX12_copy_39 : decode cX12_copy 39 = .ok (.istore 4, 2) := by decide +kernel
theorem dX12_copy_41 : decode cX12_copy 41 = .ok (.iload 4, 2) := by decide +kernel
theorem dX12_copy_43 : decode cX12_copy 43 = .ok (.iload_n 3, 1) := by decide +kernel
theorem dX12_copy_44 : decode cX12_copy 44 = .ok (.if_icmp .ge 25, 3) := by decide +kernel
theorem dX12_copy_47 : decode cX12_copy 47 = .ok (.aload_n 0, 1) := by decide +kernel
theorem dX12_copy_48 : decode cX12_copy 48 = .ok (.iload_n 1, 1) := by decide +kernel
theorem dX12_copy_49 : decode cX12_copy 49 = .ok (.iload 4, 2) := by decide +kernel
theorem dX12_copy_51 : decode cX12_copy 51 = .ok (.aload_n 0, 1) := by decide +kernel
theorem dX12_copy_52 : decode cX12_copy 52 = .ok (.iload_n 2, 1) := by decide +kernel
theorem dX12_copy_53 : decode cX12_copy 53 = .ok (.iload 4, 2) := by decide +kernel
theorem dX12_copy_55 : decode cX12_copy 55 = .ok (.invokevirtual 287, 3) := by decide +kernel
theorem dX12_copy_58 : decode cX12_copy 58 = .ok (.i2l, 1) := by decide +kernel
theorem dX12_copy_59 : decode cX12_copy 59 = .ok (.invokevirtual 564, 3) := by decide +kernel
theorem dX12_copy_62 : decode cX12_copy 62 = .ok (.pop2, 1) := by decide +kernel
theorem dX12_copy_63 : decode cX12_copy 63 = .ok (.iinc 4 1, 3) := by decide +kernel
theorem dX12_copy_66 : decode cX12_copy 66 = .ok (.goto (-25), 3) := by decide +kernel
theorem dX12_copy_69 : decode cX12_copy 69 = .ok (.iload_n 3, 1) := by decide +kernel
theorem dX12_copy_70 : decode cX12_copy 70 = .ok (.ireturn, 1) := by decide +kernel
theorem dX12_image_0 : decode cX12_image 0 = .ok (.aload_n 0, 1) := by decide +kernel
theorem dX12_image_1 : decode cX12_image 1 = .ok (.iload_n 1, 1) := by decide +kernel
theorem dX12_image_2 : decode cX12_image 2 = .ok (.i2l, 1) := by decide +kernel
theorem dX12_image_3 : decode cX12_image 3 = .ok (.lconst 0, 1) := by decide +kernel
theorem dX12_image_4 : decode cX12_image 4 = .ok (.ldc2_w 547, 3) := by decide +kernel
theorem dX12_image_7 : decode cX12_image 7 = .ok (.invokestatic 138, 3) := by decide +kernel
theorem dX12_image_10 : decode cX12_image 10 = .ok (.ifCond .eq 7, 3) := by decide +kernel
theorem dX12_image_13 : decode cX12_image 13 = .ok (.iconst 0, 1) := by decide +kernel
theorem dX12_image_14 : decode cX12_image 14 = .ok (.goto 4, 3) := by decide +kernel
theorem dX12_image_17 : decode cX12_image 17 = .ok (.iconst 1, 1) := by decide +kernel
theorem dX12_image_18 : decode cX12_image 18 = .ok (.putfield 77, 3) := by decide +kernel
theorem dX12_image_21 : decode cX12_image 21 = .ok (.aload_n 0, 1) := by decide +kernel
theorem dX12_image_22 : decode cX12_image 22 = .ok (.getfield 77, 3) := by decide +kernel
theorem dX12_image_25 : decode cX12_image 25 = .ok (.ifCond .le 4, 3) := by decide +kernel
theorem dX12_image_28 : decode cX12_image 28 = .ok (.return_, 1) := by decide +kernel
theorem dX12_image_29 : decode cX12_image 29 = .ok (.aload_n 0, 1) := by decide +kernel
theorem dX12_image_30 : decode cX12_image 30 = .ok (.getfield 19, 3) := by decide +kernel
theorem dX12_image_33 : decode cX12_image 33 = .ok (.iload_n 1, 1) := by decide +kernel
theorem dX12_image_34 : decode cX12_image 34 = .ok (.iconst 1, 1) := by decide +kernel
theorem dX12_image_35 : decode cX12_image 35 = .ok (.bastore, 1) := by decide +kernel
theorem dX12_image_36 : decode cX12_image 36 = .ok (.iconst 0, 1) := by decide +kernel
theorem dX12_image_37 : decode cX12_image 37 = .ok (.istore_n 2, 1) := by decide +kernel
theorem dX12_image_38 : decode cX12_image 38 = .ok (.iload_n 2, 1) := by decide +kernel
theorem dX12_image_39 : decode cX12_image 39 = .ok (.sipush 2912, 3) := by decide +kernel
theorem dX12_image_42 : decode cX12_image 42 = .ok (.if_icmp .ge 27, 3) := by decide +kernel
theorem dX12_image_45 : decode cX12_image 45 = .ok (.aload_n 0, 1) := by decide +kernel
theorem dX12_image_46 : decode cX12_image 46 = .ok (.getfield 16, 3) := by decide +kernel
theorem dX12_image_49 : decode cX12_image 49 = .ok (.sipush 2912, 3) := by decide +kernel
theorem dX12_image_52 : decode cX12_image 52 = .ok (.iload_n 1, 1) := by decide +kernel
theorem dX12_image_53 : decode cX12_image 53 = .ok (.imul, 1) := by decide +kernel
theorem dX12_image_54 : decode cX12_image 54 = .ok (.iload_n 2, 1) := by decide +kernel
theorem dX12_image_55 : decode cX12_image 55 = .ok (.iadd, 1) := by decide +kernel
theorem dX12_image_56 : decode cX12_image 56 = .ok (.aload_n 0, 1) := by decide +kernel
theorem dX12_image_57 : decode cX12_image 57 = .ok (.getfield 9, 3) := by decide +kernel
theorem dX12_image_60 : decode cX12_image 60 = .ok (.iload_n 2, 1) := by decide +kernel
theorem dX12_image_61 : decode cX12_image 61 = .ok (.iaload, 1) := by decide +kernel
theorem dX12_image_62 : decode cX12_image 62 = .ok (.iastore, 1) := by decide +kernel
theorem dX12_image_63 : decode cX12_image 63 = .ok (.iinc 2 1, 3) := by decide +kernel
theorem dX12_image_66 : decode cX12_image 66 = .ok (.goto (-28), 3) := by decide +kernel
theorem dX12_image_69 : decode cX12_image 69 = .ok (.return_, 1) := by decide +kernel
theorem dX12_restore_0 : decode cX12_restore 0 = .ok (.aload_n 0, 1) := by decide +kernel
theorem dX12_restore_1 : decode cX12_restore 1 = .ok (.iload_n 1, 1) := by decide +kernel
theorem dX12_restore_2 : decode cX12_restore 2 = .ok (.i2l, 1) := by decide +kernel
theorem dX12_restore_3 : decode cX12_restore 3 = .ok (.lconst 0, 1) := by decide +kernel
theorem dX12_restore_4 : decode cX12_restore 4 = .ok (.ldc2_w 547, 3) := by decide +kernel
theorem dX12_restore_7 : decode cX12_restore 7 = .ok (.invokestatic 138, 3) := by decide +kernel
theorem dX12_restore_10 : decode cX12_restore 10 = .ok (.ifCond .ne 7, 3) := by decide +kernel
theorem dX12_restore_13 : decode cX12_restore 13 = .ok (.iconst 1, 1) := by decide +kernel
theorem dX12_restore_14 : decode cX12_restore 14 = .ok (.goto 17, 3) := by decide +kernel
theorem dX12_restore_17 : decode cX12_restore 17 = .ok (.aload_n 0, 1) := by decide +kernel
theorem dX12_restore_18 : decode cX12_restore 18 = .ok (.getfield 19, 3) := by decide +kernel
theorem dX12_restore_21 : decode cX12_restore 21 = .ok (.iload_n 1, 1) := by decide +kernel
theorem dX12_restore_22 : decode cX12_restore 22 = .ok (.baload, 1) := by decide +kernel
theorem dX12_restore_23 : decode cX12_restore 23 = .ok (.ifCond .ne 7, 3) := by decide +kernel
theorem dX12_restore_26 : decode cX12_restore 26 = .ok (.iconst 2, 1) := by decide +kernel
theorem dX12_restore_27 : decode cX12_restore 27 = .ok (.goto 4, 3) := by decide +kernel
theorem dX12_restore_30 : decode cX12_restore 30 = .ok (.iconst 0, 1) := by decide +kernel
theorem dX12_restore_31 : decode cX12_restore 31 = .ok (.putfield 77, 3) := by decide +kernel
theorem dX12_restore_34 : decode cX12_restore 34 = .ok (.aload_n 0, 1) := by decide +kernel
theorem dX12_restore_35 : decode cX12_restore 35 = .ok (.getfield 77, 3) := by decide +kernel
theorem dX12_restore_38 : decode cX12_restore 38 = .ok (.ifCond .le 4, 3) := by decide +kernel
theorem dX12_restore_41 : decode cX12_restore 41 = .ok (.return_, 1) := by decide +kernel
theorem dX12_restore_42 : decode cX12_restore 42 = .ok (.iconst 0, 1) := by decide +kernel
theorem dX12_restore_43 : decode cX12_restore 43 = .ok (.istore_n 2, 1) := by decide +kernel
theorem dX12_restore_44 : decode cX12_restore 44 = .ok (.iload_n 2, 1) := by decide +kernel
theorem dX12_restore_45 : decode cX12_restore 45 = .ok (.sipush 2912, 3) := by decide +kernel
theorem dX12_restore_48 : decode cX12_restore 48 = .ok (.if_icmp .ge 27, 3) := by decide +kernel
theorem dX12_restore_51 : decode cX12_restore 51 = .ok (.aload_n 0, 1) := by decide +kernel
theorem dX12_restore_52 : decode cX12_restore 52 = .ok (.getfield 9, 3) := by decide +kernel
theorem dX12_restore_55 : decode cX12_restore 55 = .ok (.iload_n 2, 1) := by decide +kernel
theorem dX12_restore_56 : decode cX12_restore 56 = .ok (.aload_n 0, 1) := by decide +kernel
theorem dX12_restore_57 : decode cX12_restore 57 = .ok (.getfield 16, 3) := by decide +kernel
theorem dX12_restore_60 : decode cX12_restore 60 = .ok (.sipush 2912, 3) := by decide +kernel
theorem dX12_restore_63 : decode cX12_restore 63 = .ok (.iload_n 1, 1) := by decide +kernel
theorem dX12_restore_64 : decode cX12_restore 64 = .ok (.imul, 1) := by decide +kernel
theorem dX12_restore_65 : decode cX12_restore 65 = .ok (.iload_n 2, 1) := by decide +kernel
theorem dX12_restore_66 : decode cX12_restore 66 = .ok (.iadd, 1) := by decide +kernel
theorem dX12_restore_67 : decode cX12_restore 67 = .ok (.iaload, 1) := by decide +kernel
theorem dX12_restore_68 : decode cX12_restore 68 = .ok (.iastore, 1) := by decide +kernel
theorem dX12_restore_69 : decode cX12_restore 69 = .ok (.iinc 2 1, 3) := by decide +kernel
theorem dX12_restore_72 : decode cX12_restore 72 = .ok (.goto (-28), 3) := by decide +kernel
theorem dX12_restore_75 : decode cX12_restore 75 = .ok (.return_, 1) := by decide +kernel
theorem dX12_count_0 : decode cX12_count 0 = .ok (.aload_n 0, 1) := by decide +kernel
theorem dX12_count_1 : decode cX12_count 1 = .ok (.iconst 0, 1) := by decide +kernel
theorem dX12_count_2 : decode cX12_count 2 = .ok (.putfield 77, 3) := by decide +kernel
theorem dX12_count_5 : decode cX12_count 5 = .ok (.aload_n 0, 1) := by decide +kernel
theorem dX12_count_6 : decode cX12_count 6 = .ok (.invokevirtual 343, 3) := by decide +kernel
theorem dX12_count_9 : decode cX12_count 9 = .ok (.istore_n 2, 1) := by decide +kernel
theorem dX12_count_10 : decode cX12_count 10 = .ok (.iload_n 1, 1) := by decide +kernel
theorem dX12_count_11 : decode cX12_count 11 = .ok (.tableswitch 127 0 10 #[57, 64, 69, 76, 82, 88, 96, 102, 108, 114, 122], 57) := by decide +kernel
theorem dX12_count_68 : decode cX12_count 68 = .ok (.aload_n 0, 1) := by decide +kernel
theorem dX12_count_69 : decode cX12_count 69 = .ok (.getfield 9, 3) := by decide +kernel
theorem dX12_count_72 : decode cX12_count 72 = .ok (.iconst 0, 1) := by decide +kernel
theorem dX12_count_73 : decode cX12_count 73 = .ok (.iaload, 1) := by decide +kernel
theorem dX12_count_74 : decode cX12_count 74 = .ok (.ireturn, 1) := by decide +kernel
theorem dX12_count_75 : decode cX12_count 75 = .ok (.aload_n 0, 1) := by decide +kernel
theorem dX12_count_76 : decode cX12_count 76 = .ok (.invokevirtual 253, 3) := by decide +kernel
theorem dX12_count_79 : decode cX12_count 79 = .ok (.ireturn, 1) := by decide +kernel
theorem dX12_count_80 : decode cX12_count 80 = .ok (.aload_n 0, 1) := by decide +kernel
theorem dX12_count_81 : decode cX12_count 81 = .ok (.getfield 9, 3) := by decide +kernel
theorem dX12_count_84 : decode cX12_count 84 = .ok (.iconst 2, 1) := by decide +kernel
theorem dX12_count_85 : decode cX12_count 85 = .ok (.iaload, 1) := by decide +kernel
theorem dX12_count_86 : decode cX12_count 86 = .ok (.ireturn, 1) := by decide +kernel
theorem dX12_count_87 : decode cX12_count 87 = .ok (.aload_n 0, 1) := by decide +kernel
theorem dX12_count_88 : decode cX12_count 88 = .ok (.iload_n 2, 1) := by decide +kernel
theorem dX12_count_89 : decode cX12_count 89 = .ok (.invokevirtual 256, 3) := by decide +kernel
theorem dX12_count_92 : decode cX12_count 92 = .ok (.ireturn, 1) := by decide +kernel
theorem dX12_count_93 : decode cX12_count 93 = .ok (.aload_n 0, 1) := by decide +kernel
theorem dX12_count_94 : decode cX12_count 94 = .ok (.iload_n 2, 1) := by decide +kernel
theorem dX12_count_95 : decode cX12_count 95 = .ok (.invokevirtual 325, 3) := by decide +kernel
theorem dX12_count_98 : decode cX12_count 98 = .ok (.ireturn, 1) := by decide +kernel
theorem dX12_count_99 : decode cX12_count 99 = .ok (.aload_n 0, 1) := by decide +kernel
theorem dX12_count_100 : decode cX12_count 100 = .ok (.getfield 9, 3) := by decide +kernel
theorem dX12_count_103 : decode cX12_count 103 = .ok (.bipush 7, 2) := by decide +kernel
theorem dX12_count_105 : decode cX12_count 105 = .ok (.iaload, 1) := by decide +kernel
theorem dX12_count_106 : decode cX12_count 106 = .ok (.ireturn, 1) := by decide +kernel
theorem dX12_count_107 : decode cX12_count 107 = .ok (.aload_n 0, 1) := by decide +kernel
theorem dX12_count_108 : decode cX12_count 108 = .ok (.iload_n 2, 1) := by decide +kernel
theorem dX12_count_109 : decode cX12_count 109 = .ok (.invokevirtual 293, 3) := by decide +kernel
theorem dX12_count_112 : decode cX12_count 112 = .ok (.ireturn, 1) := by decide +kernel
theorem dX12_count_113 : decode cX12_count 113 = .ok (.aload_n 0, 1) := by decide +kernel
theorem dX12_count_114 : decode cX12_count 114 = .ok (.iload_n 2, 1) := by decide +kernel
theorem dX12_count_115 : decode cX12_count 115 = .ok (.invokevirtual 296, 3) := by decide +kernel
theorem dX12_count_118 : decode cX12_count 118 = .ok (.ireturn, 1) := by decide +kernel
theorem dX12_count_119 : decode cX12_count 119 = .ok (.aload_n 0, 1) := by decide +kernel
theorem dX12_count_120 : decode cX12_count 120 = .ok (.iload_n 2, 1) := by decide +kernel
theorem dX12_count_121 : decode cX12_count 121 = .ok (.invokevirtual 328, 3) := by decide +kernel
theorem dX12_count_124 : decode cX12_count 124 = .ok (.ireturn, 1) := by decide +kernel
theorem dX12_count_125 : decode cX12_count 125 = .ok (.aload_n 0, 1) := by decide +kernel
theorem dX12_count_126 : decode cX12_count 126 = .ok (.getfield 9, 3) := by decide +kernel
theorem dX12_count_129 : decode cX12_count 129 = .ok (.bipush 6, 2) := by decide +kernel
theorem dX12_count_131 : decode cX12_count 131 = .ok (.iaload, 1) := by decide +kernel
theorem dX12_count_132 : decode cX12_count 132 = .ok (.ireturn, 1) := by decide +kernel
theorem dX12_count_133 : decode cX12_count 133 = .ok (.aload_n 0, 1) := by decide +kernel
theorem dX12_count_134 : decode cX12_count 134 = .ok (.getfield 80, 3) := by decide +kernel
theorem dX12_count_137 : decode cX12_count 137 = .ok (.ireturn, 1) := by decide +kernel
theorem dX12_count_138 : decode cX12_count 138 = .ok (.iconst (-1), 1) := by decide +kernel
theorem dX12_count_139 : decode cX12_count 139 = .ok (.ireturn, 1) := by decide +kernel
theorem dJ11_isValidCodePoint_9a6ad_0 : decode cJ11_isValidCodePoint_9a6ad 0 = .ok (.iload_n 0, 1) := by decide +kernel
theorem dJ11_isValidCodePoint_9a6ad_1 : decode cJ11_isValidCodePoint_9a6ad 1 = .ok (.bipush 16, 2) := by decide +kernel
theorem dJ11_isValidCodePoint_9a6ad_3 : decode cJ11_isValidCodePoint_9a6ad 3 = .ok (.iushr, 1) := by decide +kernel
theorem dJ11_isValidCodePoint_9a6ad_4 : decode cJ11_isValidCodePoint_9a6ad 4 = .ok (.istore_n 1, 1) := by decide +kernel
theorem dJ11_isValidCodePoint_9a6ad_5 : decode cJ11_isValidCodePoint_9a6ad 5 = .ok (.iload_n 1, 1) := by decide +kernel
theorem dJ11_isValidCodePoint_9a6ad_6 : decode cJ11_isValidCodePoint_9a6ad 6 = .ok (.bipush 17, 2) := by decide +kernel
theorem dJ11_isValidCodePoint_9a6ad_8 : decode cJ11_isValidCodePoint_9a6ad 8 = .ok (.if_icmp .ge 7, 3) := by decide +kernel
theorem dJ11_isValidCodePoint_9a6ad_11 : decode cJ11_isValidCodePoint_9a6ad 11 = .ok (.iconst 1, 1) := by decide +kernel
theorem dJ11_isValidCodePoint_9a6ad_12 : decode cJ11_isValidCodePoint_9a6ad 12 = .ok (.goto 4, 3) := by decide +kernel
theorem dJ11_isValidCodePoint_9a6ad_15 : decode cJ11_isValidCodePoint_9a6ad 15 = .ok (.iconst 0, 1) := by decide +kernel
theorem dJ11_isValidCodePoint_9a6ad_16 : decode cJ11_isValidCodePoint_9a6ad 16 = .ok (.ireturn, 1) := by decide +kernel
theorem dJ11_highSurrogate_5068e_0 : decode cJ11_highSurrogate_5068e 0 = .ok (.iload_n 0, 1) := by decide +kernel
theorem dJ11_highSurrogate_5068e_1 : decode cJ11_highSurrogate_5068e 1 = .ok (.bipush 10, 2) := by decide +kernel
theorem dJ11_highSurrogate_5068e_3 : decode cJ11_highSurrogate_5068e 3 = .ok (.iushr, 1) := by decide +kernel
theorem dJ11_highSurrogate_5068e_4 : decode cJ11_highSurrogate_5068e 4 = .ok (.ldc 110, 2) := by decide +kernel
theorem dJ11_highSurrogate_5068e_6 : decode cJ11_highSurrogate_5068e 6 = .ok (.iadd, 1) := by decide +kernel
theorem dJ11_highSurrogate_5068e_7 : decode cJ11_highSurrogate_5068e 7 = .ok (.i2c, 1) := by decide +kernel
theorem dJ11_highSurrogate_5068e_8 : decode cJ11_highSurrogate_5068e 8 = .ok (.ireturn, 1) := by decide +kernel
theorem dJ11_lowSurrogate_5068e_0 : decode cJ11_lowSurrogate_5068e 0 = .ok (.iload_n 0, 1) := by decide +kernel
theorem dJ11_lowSurrogate_5068e_1 : decode cJ11_lowSurrogate_5068e 1 = .ok (.sipush 1023, 3) := by decide +kernel
theorem dJ11_lowSurrogate_5068e_4 : decode cJ11_lowSurrogate_5068e 4 = .ok (.iand, 1) := by decide +kernel
theorem dJ11_lowSurrogate_5068e_5 : decode cJ11_lowSurrogate_5068e 5 = .ok (.ldc 76, 2) := by decide +kernel
theorem dJ11_lowSurrogate_5068e_7 : decode cJ11_lowSurrogate_5068e 7 = .ok (.iadd, 1) := by decide +kernel
theorem dJ11_lowSurrogate_5068e_8 : decode cJ11_lowSurrogate_5068e 8 = .ok (.i2c, 1) := by decide +kernel
theorem dJ11_lowSurrogate_5068e_9 : decode cJ11_lowSurrogate_5068e 9 = .ok (.ireturn, 1) := by decide +kernel
theorem dJx29ce0_ordinal_8abf5_0 : decode cJx29ce0_ordinal_8abf5 0 = .ok (.aload_n 0, 1) := by decide +kernel
theorem dJx29ce0_ordinal_8abf5_1 : decode cJx29ce0_ordinal_8abf5 1 = .ok (.getfield 7, 3) := by decide +kernel
theorem dJx29ce0_ordinal_8abf5_4 : decode cJx29ce0_ordinal_8abf5 4 = .ok (.ireturn, 1) := by decide +kernel
theorem dJ9_max_7cf53_0 : decode cJ9_max_7cf53 0 = .ok (.iload_n 0, 1) := by decide +kernel
theorem dJ9_max_7cf53_1 : decode cJ9_max_7cf53 1 = .ok (.iload_n 1, 1) := by decide +kernel
theorem dJ9_max_7cf53_2 : decode cJ9_max_7cf53 2 = .ok (.if_icmp .lt 7, 3) := by decide +kernel
theorem dJ9_max_7cf53_5 : decode cJ9_max_7cf53 5 = .ok (.iload_n 0, 1) := by decide +kernel
theorem dJ9_max_7cf53_6 : decode cJ9_max_7cf53 6 = .ok (.goto 4, 3) := by decide +kernel
theorem dJ9_max_7cf53_9 : decode cJ9_max_7cf53 9 = .ok (.iload_n 1, 1) := by decide +kernel
theorem dJ9_max_7cf53_10 : decode cJ9_max_7cf53 10 = .ok (.ireturn, 1) := by decide +kernel
theorem dJ9_max_f86c9_0 : decode cJ9_max_f86c9 0 = .ok (.lload_n 0, 1) := by decide +kernel
theorem dJ9_max_f86c9_1 : decode cJ9_max_f86c9 1 = .ok (.lload_n 2, 1) := by decide +kernel
theorem dJ9_max_f86c9_2 : decode cJ9_max_f86c9 2 = .ok (.lcmp, 1) := by decide +kernel
theorem dJ9_max_f86c9_3 : decode cJ9_max_f86c9 3 = .ok (.ifCond .lt 7, 3) := by decide +kernel
theorem dJ9_max_f86c9_6 : decode cJ9_max_f86c9 6 = .ok (.lload_n 0, 1) := by decide +kernel
theorem dJ9_max_f86c9_7 : decode cJ9_max_f86c9 7 = .ok (.goto 4, 3) := by decide +kernel
theorem dJ9_max_f86c9_10 : decode cJ9_max_f86c9 10 = .ok (.lload_n 2, 1) := by decide +kernel
theorem dJ9_max_f86c9_11 : decode cJ9_max_f86c9 11 = .ok (.lreturn, 1) := by decide +kernel
theorem dJ9_min_7cf53_0 : decode cJ9_min_7cf53 0 = .ok (.iload_n 0, 1) := by decide +kernel
theorem dJ9_min_7cf53_1 : decode cJ9_min_7cf53 1 = .ok (.iload_n 1, 1) := by decide +kernel
theorem dJ9_min_7cf53_2 : decode cJ9_min_7cf53 2 = .ok (.if_icmp .gt 7, 3) := by decide +kernel
theorem dJ9_min_7cf53_5 : decode cJ9_min_7cf53 5 = .ok (.iload_n 0, 1) := by decide +kernel
theorem dJ9_min_7cf53_6 : decode cJ9_min_7cf53 6 = .ok (.goto 4, 3) := by decide +kernel
theorem dJ9_min_7cf53_9 : decode cJ9_min_7cf53 9 = .ok (.iload_n 1, 1) := by decide +kernel
theorem dJ9_min_7cf53_10 : decode cJ9_min_7cf53 10 = .ok (.ireturn, 1) := by decide +kernel
theorem dJ9_min_f86c9_0 : decode cJ9_min_f86c9 0 = .ok (.lload_n 0, 1) := by decide +kernel
theorem dJ9_min_f86c9_1 : decode cJ9_min_f86c9 1 = .ok (.lload_n 2, 1) := by decide +kernel
theorem dJ9_min_f86c9_2 : decode cJ9_min_f86c9 2 = .ok (.lcmp, 1) := by decide +kernel
theorem dJ9_min_f86c9_3 : decode cJ9_min_f86c9 3 = .ok (.ifCond .gt 7, 3) := by decide +kernel
theorem dJ9_min_f86c9_6 : decode cJ9_min_f86c9 6 = .ok (.lload_n 0, 1) := by decide +kernel
theorem dJ9_min_f86c9_7 : decode cJ9_min_f86c9 7 = .ok (.goto 4, 3) := by decide +kernel
theorem dJ9_min_f86c9_10 : decode cJ9_min_f86c9 10 = .ok (.lload_n 2, 1) := by decide +kernel
theorem dJ9_min_f86c9_11 : decode cJ9_min_f86c9 11 = .ok (.lreturn, 1) := by decide +kernel
theorem dJ0_length_8abf5_0 : decode cJ0_length_8abf5 0 = .ok (.aload_n 0, 1) := by decide +kernel
theorem dJ0_length_8abf5_1 : decode cJ0_length_8abf5 1 = .ok (.getfield 9, 3) := by decide +kernel
theorem dJ0_length_8abf5_4 : decode cJ0_length_8abf5 4 = .ok (.arraylength, 1) := by decide +kernel
theorem dJ0_length_8abf5_5 : decode cJ0_length_8abf5 5 = .ok (.aload_n 0, 1) := by decide +kernel
theorem dJ0_length_8abf5_6 : decode cJ0_length_8abf5 6 = .ok (.invokevirtual 335, 3) := by decide +kernel
theorem dJ0_length_8abf5_9 : decode cJ0_length_8abf5 9 = .ok (.ishr, 1) := by decide +kernel
theorem dJ0_length_8abf5_10 : decode cJ0_length_8abf5 10 = .ok (.ireturn, 1) := by decide +kernel
theorem dJ0_charAt_5068e_0 : decode cJ0_charAt_5068e 0 = .ok (.aload_n 0, 1) := by decide +kernel
theorem dJ0_charAt_5068e_1 : decode cJ0_charAt_5068e 1 = .ok (.invokevirtual 492, 3) := by decide +kernel
theorem dJ0_charAt_5068e_4 : decode cJ0_charAt_5068e 4 = .ok (.ifCond .eq 12, 3) := by decide +kernel
theorem dJ0_charAt_5068e_7 : decode cJ0_charAt_5068e 7 = .ok (.aload_n 0, 1) := by decide +kernel
theorem dJ0_charAt_5068e_8 : decode cJ0_charAt_5068e 8 = .ok (.getfield 9, 3) := by decide +kernel
theorem dJ0_charAt_5068e_11 : decode cJ0_charAt_5068e 11 = .ok (.iload_n 1, 1) := by decide +kernel
theorem dJ0_charAt_5068e_12 : decode cJ0_charAt_5068e 12 = .ok (.invokestatic 495, 3) := by decide +kernel
theorem dJ0_charAt_5068e_15 : decode cJ0_charAt_5068e 15 = .ok (.ireturn, 1) := by decide +kernel
theorem dJ0_charAt_5068e_16 : decode cJ0_charAt_5068e 16 = .ok (.aload_n 0, 1) := by decide +kernel
theorem dJ0_charAt_5068e_17 : decode cJ0_charAt_5068e 17 = .ok (.getfield 9, 3) := by decide +kernel
theorem dJ0_charAt_5068e_20 : decode cJ0_charAt_5068e 20 = .ok (.iload_n 1, 1) := by decide +kernel
theorem dJ0_charAt_5068e_21 : decode cJ0_charAt_5068e 21 = .ok (.invokestatic 498, 3) := by decide +kernel
theorem dJ0_charAt_5068e_24 : decode cJ0_charAt_5068e 24 = .ok (.ireturn, 1) := by decide +kernel
theorem dJ0_indexOf_0f7a4_0 : decode cJ0_indexOf_0f7a4 0 = .ok (.aload_n 0, 1) := by decide +kernel
theorem dJ0_indexOf_0f7a4_1 : decode cJ0_indexOf_0f7a4 1 = .ok (.iload_n 1, 1) := by decide +kernel
theorem dJ0_indexOf_0f7a4_2 : decode cJ0_indexOf_0f7a4 2 = .ok (.iconst 0, 1) := by decide +kernel
theorem dJ0_indexOf_0f7a4_3 : decode cJ0_indexOf_0f7a4 3 = .ok (.invokevirtual 633, 3) := by decide +kernel
theorem dJ0_indexOf_0f7a4_6 : decode cJ0_indexOf_0f7a4 6 = .ok (.ireturn, 1) := by decide +kernel
theorem dJ0_indexOf_7cf53_0 : decode cJ0_indexOf_7cf53 0 = .ok (.aload_n 0, 1) := by decide +kernel
theorem dJ0_indexOf_7cf53_1 : decode cJ0_indexOf_7cf53 1 = .ok (.invokevirtual 492, 3) := by decide +kernel
theorem dJ0_indexOf_7cf53_4 : decode cJ0_indexOf_7cf53 4 = .ok (.ifCond .eq 19, 3) := by decide +kernel
theorem dJ0_indexOf_7cf53_7 : decode cJ0_indexOf_7cf53 7 = .ok (.aload_n 0, 1) := by decide +kernel
theorem dJ0_indexOf_7cf53_8 : decode cJ0_indexOf_7cf53 8 = .ok (.getfield 9, 3) := by decide +kernel
theorem dJ0_indexOf_7cf53_11 : decode cJ0_indexOf_7cf53 11 = .ok (.iload_n 1, 1) := by decide +kernel
theorem dJ0_indexOf_7cf53_12 : decode cJ0_indexOf_7cf53 12 = .ok (.iload_n 2, 1) := by decide +kernel
theorem dJ0_indexOf_7cf53_13 : decode cJ0_indexOf_7cf53 13 = .ok (.aload_n 0, 1) := by decide +kernel
theorem dJ0_indexOf_7cf53_14 : decode cJ0_indexOf_7cf53 14 = .ok (.invokevirtual 505, 3) := by decide +kernel
theorem dJ0_indexOf_7cf53_17 : decode cJ0_indexOf_7cf53 17 = .ok (.invokestatic 637, 3) := by decide +kernel
theorem dJ0_indexOf_7cf53_20 : decode cJ0_indexOf_7cf53 20 = .ok (.goto 16, 3) := by decide +kernel
theorem dJ0_indexOf_7cf53_23 : decode cJ0_indexOf_7cf53 23 = .ok (.aload_n 0, 1) := by decide +kernel
theorem dJ0_indexOf_7cf53_24 : decode cJ0_indexOf_7cf53 24 = .ok (.getfield 9, 3) := by decide +kernel
theorem dJ0_indexOf_7cf53_27 : decode cJ0_indexOf_7cf53 27 = .ok (.iload_n 1, 1) := by decide +kernel
theorem dJ0_indexOf_7cf53_28 : decode cJ0_indexOf_7cf53 28 = .ok (.iload_n 2, 1) := by decide +kernel
theorem dJ0_indexOf_7cf53_29 : decode cJ0_indexOf_7cf53 29 = .ok (.aload_n 0, 1) := by decide +kernel
theorem dJ0_indexOf_7cf53_30 : decode cJ0_indexOf_7cf53 30 = .ok (.invokevirtual 505, 3) := by decide +kernel
theorem dJ0_indexOf_7cf53_33 : decode cJ0_indexOf_7cf53 33 = .ok (.invokestatic 640, 3) := by decide +kernel
theorem dJ0_indexOf_7cf53_36 : decode cJ0_indexOf_7cf53 36 = .ok (.ireturn, 1) := by decide +kernel
theorem dJ0_coder_7d493_0 : decode cJ0_coder_7d493 0 = .ok (.getstatic 38, 3) := by decide +kernel
theorem dJ0_coder_7d493_3 : decode cJ0_coder_7d493 3 = .ok (.ifCond .eq 10, 3) := by decide +kernel
theorem dJ0_coder_7d493_6 : decode cJ0_coder_7d493 6 = .ok (.aload_n 0, 1) := by decide +kernel
theorem dJ0_coder_7d493_7 : decode cJ0_coder_7d493 7 = .ok (.getfield 15, 3) := by decide +kernel
theorem dJ0_coder_7d493_10 : decode cJ0_coder_7d493 10 = .ok (.goto 4, 3) := by decide +kernel
theorem dJ0_coder_7d493_13 : decode cJ0_coder_7d493 13 = .ok (.iconst 1, 1) := by decide +kernel
theorem dJ0_coder_7d493_14 : decode cJ0_coder_7d493 14 = .ok (.ireturn, 1) := by decide +kernel
theorem dJ0_isLatin1_aae02_0 : decode cJ0_isLatin1_aae02 0 = .ok (.getstatic 38, 3) := by decide +kernel
theorem dJ0_isLatin1_aae02_3 : decode cJ0_isLatin1_aae02 3 = .ok (.ifCond .eq 14, 3) := by decide +kernel
theorem dJ0_isLatin1_aae02_6 : decode cJ0_isLatin1_aae02 6 = .ok (.aload_n 0, 1) := by decide +kernel
theorem dJ0_isLatin1_aae02_7 : decode cJ0_isLatin1_aae02 7 = .ok (.getfield 15, 3) := by decide +kernel
theorem dJ0_isLatin1_aae02_10 : decode cJ0_isLatin1_aae02 10 = .ok (.ifCond .ne 7, 3) := by decide +kernel
theorem dJ0_isLatin1_aae02_13 : decode cJ0_isLatin1_aae02 13 = .ok (.iconst 1, 1) := by decide +kernel
theorem dJ0_isLatin1_aae02_14 : decode cJ0_isLatin1_aae02 14 = .ok (.goto 4, 3) := by decide +kernel
theorem dJ0_isLatin1_aae02_17 : decode cJ0_isLatin1_aae02 17 = .ok (.iconst 0, 1) := by decide +kernel
theorem dJ0_isLatin1_aae02_18 : decode cJ0_isLatin1_aae02 18 = .ok (.ireturn, 1) := by decide +kernel
theorem dJ0_checkIndex_df160_0 : decode cJ0_checkIndex_df160 0 = .ok (.iload_n 0, 1) := by decide +kernel
theorem dJ0_checkIndex_df160_1 : decode cJ0_checkIndex_df160 1 = .ok (.iload_n 1, 1) := by decide +kernel
theorem dJ0_checkIndex_df160_2 : decode cJ0_checkIndex_df160 2 = .ok (.getstatic 1053, 3) := by decide +kernel
theorem dJ0_checkIndex_df160_5 : decode cJ0_checkIndex_df160 5 = .ok (.invokestatic 1059, 3) := by decide +kernel
theorem dJ0_checkIndex_df160_8 : decode cJ0_checkIndex_df160 8 = .ok (.pop, 1) := by decide +kernel
theorem dJ0_checkIndex_df160_9 : decode cJ0_checkIndex_df160 9 = .ok (.return_, 1) := by decide +kernel
theorem dJ0_checkBoundsBeginEnd_23922_0 : decode cJ0_checkBoundsBeginEnd_23922 0 = .ok (.iload_n 0, 1) := by decide +kernel
theorem dJ0_checkBoundsBeginEnd_23922_1 : decode cJ0_checkBoundsBeginEnd_23922 1 = .ok (.iload_n 1, 1) := by decide +kernel
theorem dJ0_checkBoundsBeginEnd_23922_2 : decode cJ0_checkBoundsBeginEnd_23922 2 = .ok (.iload_n 2, 1) := by decide +kernel
theorem dJ0_checkBoundsBeginEnd_23922_3 : decode cJ0_checkBoundsBeginEnd_23922 3 = .ok (.getstatic 1053, 3) := by decide +kernel
theorem dJ0_checkBoundsBeginEnd_23922_6 : decode cJ0_checkBoundsBeginEnd_23922 6 = .ok (.invokestatic 1062, 3) := by decide +kernel
theorem dJ0_checkBoundsBeginEnd_23922_9 : decode cJ0_checkBoundsBeginEnd_23922 9 = .ok (.pop, 1) := by decide +kernel
theorem dJ0_checkBoundsBeginEnd_23922_10 : decode cJ0_checkBoundsBeginEnd_23922 10 = .ok (.return_, 1) := by decide +kernel
theorem dJ1_charAt_3b067_0 : decode cJ1_charAt_3b067 0 = .ok (.iload_n 1, 1) := by decide +kernel
theorem dJ1_charAt_3b067_1 : decode cJ1_charAt_3b067 1 = .ok (.aload_n 0, 1) := by decide +kernel
theorem dJ1_charAt_3b067_2 : decode cJ1_charAt_3b067 2 = .ok (.arraylength, 1) := by decide +kernel
theorem dJ1_charAt_3b067_3 : decode cJ1_charAt_3b067 3 = .ok (.invokestatic 9, 3) := by decide +kernel
theorem dJ1_charAt_3b067_6 : decode cJ1_charAt_3b067 6 = .ok (.aload_n 0, 1) := by decide +kernel
theorem dJ1_charAt_3b067_7 : decode cJ1_charAt_3b067 7 = .ok (.iload_n 1, 1) := by decide +kernel
theorem dJ1_charAt_3b067_8 : decode cJ1_charAt_3b067 8 = .ok (.baload, 1) := by decide +kernel
theorem dJ1_charAt_3b067_9 : decode cJ1_charAt_3b067 9 = .ok (.sipush 255, 3) := by decide +kernel
theorem dJ1_charAt_3b067_12 : decode cJ1_charAt_3b067 12 = .ok (.iand, 1) := by decide +kernel
theorem dJ1_charAt_3b067_13 : decode cJ1_charAt_3b067 13 = .ok (.i2c, 1) := by decide +kernel
theorem dJ1_charAt_3b067_14 : decode cJ1_charAt_3b067 14 = .ok (.ireturn, 1) := by decide +kernel
theorem dJ1_canEncode_9a6ad_0 : decode cJ1_canEncode_9a6ad 0 = .ok (.iload_n 0, 1) := by decide +kernel
theorem dJ1_canEncode_9a6ad_1 : decode cJ1_canEncode_9a6ad 1 = .ok (.ifCond .lt 14, 3) := by decide +kernel
theorem dJ1_canEncode_9a6ad_4 : decode cJ1_canEncode_9a6ad 4 = .ok (.iload_n 0, 1) := by decide +kernel
theorem dJ1_canEncode_9a6ad_5 : decode cJ1_canEncode_9a6ad 5 = .ok (.sipush 255, 3) := by decide +kernel
theorem dJ1_canEncode_9a6ad_8 : decode cJ1_canEncode_9a6ad 8 = .ok (.if_icmp .gt 7, 3) := by decide +kernel
theorem dJ1_canEncode_9a6ad_11 : decode cJ1_canEncode_9a6ad 11 = .ok (.iconst 1, 1) := by decide +kernel
theorem dJ1_canEncode_9a6ad_12 : decode cJ1_canEncode_9a6ad 12 = .ok (.goto 4, 3) := by decide +kernel
theorem dJ1_canEncode_9a6ad_15 : decode cJ1_canEncode_9a6ad 15 = .ok (.iconst 0, 1) := by decide +kernel
theorem dJ1_canEncode_9a6ad_16 : decode cJ1_canEncode_9a6ad 16 = .ok (.ireturn, 1) := by decide +kernel
theorem dJ1_indexOf_4cfef_0 : decode cJ1_indexOf_4cfef 0 = .ok (.iload_n 1, 1) := by decide +kernel
theorem dJ1_indexOf_4cfef_1 : decode cJ1_indexOf_4cfef 1 = .ok (.invokestatic 88, 3) := by decide +kernel
theorem dJ1_indexOf_4cfef_4 : decode cJ1_indexOf_4cfef 4 = .ok (.ifCond .ne 5, 3) := by decide +kernel
theorem dJ1_indexOf_4cfef_7 : decode cJ1_indexOf_4cfef 7 = .ok (.iconst (-1), 1) := by decide +kernel
theorem dJ1_indexOf_4cfef_8 : decode cJ1_indexOf_4cfef 8 = .ok (.ireturn, 1) := by decide +kernel
theorem dJ1_indexOf_4cfef_9 : decode cJ1_indexOf_4cfef 9 = .ok (.iload_n 2, 1) := by decide +kernel
theorem dJ1_indexOf_4cfef_10 : decode cJ1_indexOf_4cfef 10 = .ok (.iconst 0, 1) := by decide +kernel
theorem dJ1_indexOf_4cfef_11 : decode cJ1_indexOf_4cfef 11 = .ok (.invokestatic 92, 3) := by decide +kernel
theorem dJ1_indexOf_4cfef_14 : decode cJ1_indexOf_4cfef 14 = .ok (.istore_n 2, 1) := by decide +kernel
theorem dJ1_indexOf_4cfef_15 : decode cJ1_indexOf_4cfef 15 = .ok (.iload_n 3, 1) := by decide +kernel
theorem dJ1_indexOf_4cfef_16 : decode cJ1_indexOf_4cfef 16 = .ok (.aload_n 0, 1) := by decide +kernel
theorem dJ1_indexOf_4cfef_17 : decode cJ1_indexOf_4cfef 17 = .ok (.arraylength, 1) := by decide +kernel
theorem dJ1_indexOf_4cfef_18 : decode cJ1_indexOf_4cfef 18 = .ok (.invokestatic 38, 3) := by decide +kernel
theorem dJ1_indexOf_4cfef_21 : decode cJ1_indexOf_4cfef 21 = .ok (.istore_n 3, 1) := by decide +kernel
theorem dJ1_indexOf_4cfef_22 : decode cJ1_indexOf_4cfef 22 = .ok (.iload_n 2, 1) := by decide +kernel
theorem dJ1_indexOf_4cfef_23 : decode cJ1_indexOf_4cfef 23 = .ok (.iload_n 3, 1) := by decide +kernel
theorem dJ1_indexOf_4cfef_24 : decode cJ1_indexOf_4cfef 24 = .ok (.if_icmp .lt 5, 3) := by decide +kernel
theorem dJ1_indexOf_4cfef_27 : decode cJ1_indexOf_4cfef 27 = .ok (.iconst (-1), 1) := by decide +kernel
theorem dJ1_indexOf_4cfef_28 : decode cJ1_indexOf_4cfef 28 = .ok (.ireturn, 1) := by decide +kernel
theorem dJ1_indexOf_4cfef_29 : decode cJ1_indexOf_4cfef 29 = .ok (.aload_n 0, 1) := by decide +kernel
theorem dJ1_indexOf_4cfef_30 : decode cJ1_indexOf_4cfef 30 = .ok (.iload_n 1, 1) := by decide +kernel
theorem dJ1_indexOf_4cfef_31 : decode cJ1_indexOf_4cfef 31 = .ok (.iload_n 2, 1) := by decide +kernel
theorem dJ1_indexOf_4cfef_32 : decode cJ1_indexOf_4cfef 32 = .ok (.iload_n 3, 1) := by decide +kernel
theorem dJ1_indexOf_4cfef_33 : decode cJ1_indexOf_4cfef 33 = .ok (.invokestatic 95, 3) := by decide +kernel
theorem dJ1_indexOf_4cfef_36 : decode cJ1_indexOf_4cfef 36 = .ok (.ireturn, 1) := by decide +kernel
theorem dJ1_indexOfChar_4cfef_0 : decode cJ1_indexOfChar_4cfef 0 = .ok (.iload_n 1, 1) := by decide +kernel
theorem dJ1_indexOfChar_4cfef_1 : decode cJ1_indexOfChar_4cfef 1 = .ok (.i2b, 1) := by decide +kernel
theorem dJ1_indexOfChar_4cfef_2 : decode cJ1_indexOfChar_4cfef 2 = .ok (.istore 4, 2) := by decide +kernel
theorem dJ1_indexOfChar_4cfef_4 : decode cJ1_indexOfChar_4cfef 4 = .ok (.iload_n 2, 1) := by decide +kernel
theorem dJ1_indexOfChar_4cfef_5 : decode cJ1_indexOfChar_4cfef 5 = .ok (.istore 5, 2) := by decide +kernel
theorem dJ1_indexOfChar_4cfef_7 : decode cJ1_indexOfChar_4cfef 7 = .ok (.iload 5, 2) := by decide +kernel
theorem dJ1_indexOfChar_4cfef_9 : decode cJ1_indexOfChar_4cfef 9 = .ok (.iload_n 3, 1) := by decide +kernel
theorem dJ1_indexOfChar_4cfef_10 : decode cJ1_indexOfChar_4cfef 10 = .ok (.if_icmp .ge 21, 3) := by decide +kernel
theorem dJ1_indexOfChar_4cfef_13 : decode cJ1_indexOfChar_4cfef 13 = .ok (.aload_n 0, 1) := by decide +kernel
theorem dJ1_indexOfChar_4cfef_14 : decode cJ1_indexOfChar_4cfef 14 = .ok (.iload 5, 2) := by decide +kernel
theorem dJ1_indexOfChar_4cfef_16 : decode cJ1_indexOfChar_4cfef 16 = .ok (.baload, 1) := by decide +kernel
theorem dJ1_indexOfChar_4cfef_17 : decode cJ1_indexOfChar_4cfef 17 = .ok (.iload 4, 2) := by decide +kernel
theorem dJ1_indexOfChar_4cfef_19 : decode cJ1_indexOfChar_4cfef 19 = .ok (.if_icmp .ne 6, 3) := by decide +kernel
theorem dJ1_indexOfChar_4cfef_22 : decode cJ1_indexOfChar_4cfef 22 = .ok (.iload 5, 2) := by decide +kernel
theorem dJ1_indexOfChar_4cfef_24 : decode cJ1_indexOfChar_4cfef 24 = .ok (.ireturn, 1) := by decide +kernel
theorem dJ1_indexOfChar_4cfef_25 : decode cJ1_indexOfChar_4cfef 25 = .ok (.iinc 5 1, 3) := by decide +kernel
theorem dJ1_indexOfChar_4cfef_28 : decode cJ1_indexOfChar_4cfef 28 = .ok (.goto (-21), 3) := by decide +kernel
theorem dJ1_indexOfChar_4cfef_31 : decode cJ1_indexOfChar_4cfef 31 = .ok (.iconst (-1), 1) := by decide +kernel
theorem dJ1_indexOfChar_4cfef_32 : decode cJ1_indexOfChar_4cfef 32 = .ok (.ireturn, 1) := by decide +kernel
theorem dJ2_getChar_3b067_0 : decode cJ2_getChar_3b067 0 = .ok (.getstatic 44, 3) := by decide +kernel
theorem dJ2_getChar_3b067_3 : decode cJ2_getChar_3b067 3 = .ok (.ifCond .ne 25, 3) := by decide +kernel
theorem dJ2_getChar_3b067_6 : decode cJ2_getChar_3b067 6 = .ok (.iload_n 1, 1) := by decide +kernel
theorem dJ2_getChar_3b067_7 : decode cJ2_getChar_3b067 7 = .ok (.ifCond .lt 11, 3) := by decide +kernel
theorem dJ2_getChar_3b067_10 : decode cJ2_getChar_3b067 10 = .ok (.iload_n 1, 1) := by decide +kernel
theorem dJ2_getChar_3b067_11 : decode cJ2_getChar_3b067 11 = .ok (.aload_n 0, 1) := by decide +kernel
theorem dJ2_getChar_3b067_12 : decode cJ2_getChar_3b067 12 = .ok (.invokestatic 48, 3) := by decide +kernel
theorem dJ2_getChar_3b067_15 : decode cJ2_getChar_3b067 15 = .ok (.if_icmp .lt 13, 3) := by decide +kernel
theorem dJ2_getChar_3b067_18 : decode cJ2_getChar_3b067 18 = .ok (.new 52, 3) := by decide +kernel
theorem dJ2_getChar_3b067_21 : decode cJ2_getChar_3b067 21 = .ok (.dup, 1) := by decide +kernel
theorem dJ2_getChar_3b067_22 : decode cJ2_getChar_3b067 22 = .ok (.ldc 54, 2) := by decide +kernel
theorem dJ2_getChar_3b067_24 : decode cJ2_getChar_3b067 24 = .ok (.invokespecial 56, 3) := by decide +kernel
theorem dJ2_getChar_3b067_27 : decode cJ2_getChar_3b067 27 = .ok (.athrow, 1) := by decide +kernel
theorem dJ2_getChar_3b067_28 : decode cJ2_getChar_3b067 28 = .ok (.iload_n 1, 1) := by decide +kernel
theorem dJ2_getChar_3b067_29 : decode cJ2_getChar_3b067 29 = .ok (.iconst 1, 1) := by decide +kernel
theorem dJ2_getChar_3b067_30 : decode cJ2_getChar_3b067 30 = .ok (.ishl, 1) := by decide +kernel
theorem dJ2_getChar_3b067_31 : decode cJ2_getChar_3b067 31 = .ok (.istore_n 1, 1) := by decide +kernel
theorem dJ2_getChar_3b067_32 : decode cJ2_getChar_3b067 32 = .ok (.aload_n 0, 1) := by decide +kernel
theorem dJ2_getChar_3b067_33 : decode cJ2_getChar_3b067 33 = .ok (.iload_n 1, 1) := by decide +kernel
theorem dJ2_getChar_3b067_34 : decode cJ2_getChar_3b067 34 = .ok (.iinc 1 1, 3) := by decide +kernel
theorem dJ2_getChar_3b067_37 : decode cJ2_getChar_3b067 37 = .ok (.baload, 1) := by decide +kernel
theorem dJ2_getChar_3b067_38 : decode cJ2_getChar_3b067 38 = .ok (.sipush 255, 3) := by decide +kernel
theorem dJ2_getChar_3b067_41 : decode cJ2_getChar_3b067 41 = .ok (.iand, 1) := by decide +kernel
theorem dJ2_getChar_3b067_42 : decode cJ2_getChar_3b067 42 = .ok (.getstatic 59, 3) := by decide +kernel
theorem dJ2_getChar_3b067_45 : decode cJ2_getChar_3b067 45 = .ok (.ishl, 1) := by decide +kernel
theorem dJ2_getChar_3b067_46 : decode cJ2_getChar_3b067 46 = .ok (.aload_n 0, 1) := by decide +kernel
theorem dJ2_getChar_3b067_47 : decode cJ2_getChar_3b067 47 = .ok (.iload_n 1, 1) := by decide +kernel
theorem dJ2_getChar_3b067_48 : decode cJ2_getChar_3b067 48 = .ok (.baload, 1) := by decide +kernel
theorem dJ2_getChar_3b067_49 : decode cJ2_getChar_3b067 49 = .ok (.sipush 255, 3) := by decide +kernel
theorem dJ2_getChar_3b067_52 : decode cJ2_getChar_3b067 52 = .ok (.iand, 1) := by decide +kernel
theorem dJ2_getChar_3b067_53 : decode cJ2_getChar_3b067 53 = .ok (.getstatic 63, 3) := by decide +kernel
theorem dJ2_getChar_3b067_56 : decode cJ2_getChar_3b067 56 = .ok (.ishl, 1) := by decide +kernel
theorem dJ2_getChar_3b067_57 : decode cJ2_getChar_3b067 57 = .ok (.ior, 1) := by decide +kernel
theorem dJ2_getChar_3b067_58 : decode cJ2_getChar_3b067 58 = .ok (.i2c, 1) := by decide +kernel
theorem dJ2_getChar_3b067_59 : decode cJ2_getChar_3b067 59 = .ok (.ireturn, 1) := by decide +kernel
theorem dJ2_length_9d52b_0 : decode cJ2_length_9d52b 0 = .ok (.aload_n 0, 1) := by decide +kernel
theorem dJ2_length_9d52b_1 : decode cJ2_length_9d52b 1 = .ok (.arraylength, 1) := by decide +kernel
theorem dJ2_length_9d52b_2 : decode cJ2_length_9d52b 2 = .ok (.iconst 1, 1) := by decide +kernel
theorem dJ2_length_9d52b_3 : decode cJ2_length_9d52b 3 = .ok (.ishr, 1) := by decide +kernel
theorem dJ2_length_9d52b_4 : decode cJ2_length_9d52b 4 = .ok (.ireturn, 1) := by decide +kernel
theorem dJ2_indexOf_4cfef_0 : decode cJ2_indexOf_4cfef 0 = .ok (.iload_n 2, 1) := by decide +kernel
theorem dJ2_indexOf_4cfef_1 : decode cJ2_indexOf_4cfef 1 = .ok (.iconst 0, 1) := by decide +kernel
theorem dJ2_indexOf_4cfef_2 : decode cJ2_indexOf_4cfef 2 = .ok (.invokestatic 224, 3) := by decide +kernel
theorem dJ2_indexOf_4cfef_5 : decode cJ2_indexOf_4cfef 5 = .ok (.istore_n 2, 1) := by decide +kernel
theorem dJ2_indexOf_4cfef_6 : decode cJ2_indexOf_4cfef 6 = .ok (.iload_n 3, 1) := by decide +kernel
theorem dJ2_indexOf_4cfef_7 : decode cJ2_indexOf_4cfef 7 = .ok (.aload_n 0, 1) := by decide +kernel
theorem dJ2_indexOf_4cfef_8 : decode cJ2_indexOf_4cfef 8 = .ok (.arraylength, 1) := by decide +kernel
theorem dJ2_indexOf_4cfef_9 : decode cJ2_indexOf_4cfef 9 = .ok (.iconst 1, 1) := by decide +kernel
theorem dJ2_indexOf_4cfef_10 : decode cJ2_indexOf_4cfef 10 = .ok (.ishr, 1) := by decide +kernel
theorem dJ2_indexOf_4cfef_11 : decode cJ2_indexOf_4cfef 11 = .ok (.invokestatic 183, 3) := by decide +kernel
theorem dJ2_indexOf_4cfef_14 : decode cJ2_indexOf_4cfef 14 = .ok (.istore_n 3, 1) := by decide +kernel
theorem dJ2_indexOf_4cfef_15 : decode cJ2_indexOf_4cfef 15 = .ok (.iload_n 2, 1) := by decide +kernel
theorem dJ2_indexOf_4cfef_16 : decode cJ2_indexOf_4cfef 16 = .ok (.iload_n 3, 1) := by decide +kernel
theorem dJ2_indexOf_4cfef_17 : decode cJ2_indexOf_4cfef 17 = .ok (.if_icmp .lt 5, 3) := by decide +kernel
theorem dJ2_indexOf_4cfef_20 : decode cJ2_indexOf_4cfef 20 = .ok (.iconst (-1), 1) := by decide +kernel
theorem dJ2_indexOf_4cfef_21 : decode cJ2_indexOf_4cfef 21 = .ok (.ireturn, 1) := by decide +kernel
theorem dJ2_indexOf_4cfef_22 : decode cJ2_indexOf_4cfef 22 = .ok (.iload_n 1, 1) := by decide +kernel
theorem dJ2_indexOf_4cfef_23 : decode cJ2_indexOf_4cfef 23 = .ok (.ldc 227, 2) := by decide +kernel
theorem dJ2_indexOf_4cfef_25 : decode cJ2_indexOf_4cfef 25 = .ok (.if_icmp .ge 11, 3) := by decide +kernel
theorem dJ2_indexOf_4cfef_28 : decode cJ2_indexOf_4cfef 28 = .ok (.aload_n 0, 1) := by decide +kernel
theorem dJ2_indexOf_4cfef_29 : decode cJ2_indexOf_4cfef 29 = .ok (.iload_n 1, 1) := by decide +kernel
theorem dJ2_indexOf_4cfef_30 : decode cJ2_indexOf_4cfef 30 = .ok (.iload_n 2, 1) := by decide +kernel
theorem dJ2_indexOf_4cfef_31 : decode cJ2_indexOf_4cfef 31 = .ok (.iload_n 3, 1) := by decide +kernel
theorem dJ2_indexOf_4cfef_32 : decode cJ2_indexOf_4cfef 32 = .ok (.invokestatic 228, 3) := by decide +kernel
theorem dJ2_indexOf_4cfef_35 : decode cJ2_indexOf_4cfef 35 = .ok (.ireturn, 1) := by decide +kernel
theorem dJ2_indexOf_4cfef_36 : decode cJ2_indexOf_4cfef 36 = .ok (.aload_n 0, 1) := by decide +kernel
theorem dJ2_indexOf_4cfef_37 : decode cJ2_indexOf_4cfef 37 = .ok (.iload_n 1, 1) := by decide +kernel
theorem dJ2_indexOf_4cfef_38 : decode cJ2_indexOf_4cfef 38 = .ok (.iload_n 2, 1) := by decide +kernel
theorem dJ2_indexOf_4cfef_39 : decode cJ2_indexOf_4cfef 39 = .ok (.iload_n 3, 1) := by decide +kernel
theorem dJ2_indexOf_4cfef_40 : decode cJ2_indexOf_4cfef 40 = .ok (.invokestatic 232, 3) := by decide +kernel
theorem dJ2_indexOf_4cfef_43 : decode cJ2_indexOf_4cfef 43 = .ok (.ireturn, 1) := by decide +kernel
theorem dJ2_indexOfChar_4cfef_0 : decode cJ2_indexOfChar_4cfef 0 = .ok (.iload_n 2, 1) := by decide +kernel
theorem dJ2_indexOfChar_4cfef_1 : decode cJ2_indexOfChar_4cfef 1 = .ok (.iload_n 3, 1) := by decide +kernel
theorem dJ2_indexOfChar_4cfef_2 : decode cJ2_indexOfChar_4cfef 2 = .ok (.aload_n 0, 1) := by decide +kernel
theorem dJ2_indexOfChar_4cfef_3 : decode cJ2_indexOfChar_4cfef 3 = .ok (.invokestatic 96, 3) := by decide +kernel
theorem dJ2_indexOfChar_4cfef_6 : decode cJ2_indexOfChar_4cfef 6 = .ok (.aload_n 0, 1) := by decide +kernel
theorem dJ2_indexOfChar_4cfef_7 : decode cJ2_indexOfChar_4cfef 7 = .ok (.iload_n 1, 1) := by decide +kernel
theorem dJ2_indexOfChar_4cfef_8 : decode cJ2_indexOfChar_4cfef 8 = .ok (.iload_n 2, 1) := by decide +kernel
theorem dJ2_indexOfChar_4cfef_9 : decode cJ2_indexOfChar_4cfef 9 = .ok (.iload_n 3, 1) := by decide +kernel
theorem dJ2_indexOfChar_4cfef_10 : decode cJ2_indexOfChar_4cfef 10 = .ok (.invokestatic 244, 3) := by decide +kernel
theorem dJ2_indexOfChar_4cfef_13 : decode cJ2_indexOfChar_4cfef 13 = .ok (.ireturn, 1) := by decide +kernel
theorem dJ2_indexOfCharUnsafe_4cfef_0 : decode cJ2_indexOfCharUnsafe_4cfef 0 = .ok (.iload_n 2, 1) := by decide +kernel
theorem dJ2_indexOfCharUnsafe_4cfef_1 : decode cJ2_indexOfCharUnsafe_4cfef 1 = .ok (.istore 4, 2) := by decide +kernel
theorem dJ2_indexOfCharUnsafe_4cfef_3 : decode cJ2_indexOfCharUnsafe_4cfef 3 = .ok (.iload 4, 2) := by decide +kernel
theorem dJ2_indexOfCharUnsafe_4cfef_5 : decode cJ2_indexOfCharUnsafe_4cfef 5 = .ok (.iload_n 3, 1) := by decide +kernel
theorem dJ2_indexOfCharUnsafe_4cfef_6 : decode cJ2_indexOfCharUnsafe_4cfef 6 = .ok (.if_icmp .ge 22, 3) := by decide +kernel
theorem dJ2_indexOfCharUnsafe_4cfef_9 : decode cJ2_indexOfCharUnsafe_4cfef 9 = .ok (.aload_n 0, 1) := by decide +kernel
theorem dJ2_indexOfCharUnsafe_4cfef_10 : decode cJ2_indexOfCharUnsafe_4cfef 10 = .ok (.iload 4, 2) := by decide +kernel
theorem dJ2_indexOfCharUnsafe_4cfef_12 : decode cJ2_indexOfCharUnsafe_4cfef 12 = .ok (.invokestatic 71, 3) := by decide +kernel
theorem dJ2_indexOfCharUnsafe_4cfef_15 : decode cJ2_indexOfCharUnsafe_4cfef 15 = .ok (.iload_n 1, 1) := by decide +kernel
theorem dJ2_indexOfCharUnsafe_4cfef_16 : decode cJ2_indexOfCharUnsafe_4cfef 16 = .ok (.if_icmp .ne 6, 3) := by decide +kernel
theorem dJ2_indexOfCharUnsafe_4cfef_19 : decode cJ2_indexOfCharUnsafe_4cfef 19 = .ok (.iload 4, 2) := by decide +kernel
theorem dJ2_indexOfCharUnsafe_4cfef_21 : decode cJ2_indexOfCharUnsafe_4cfef 21 = .ok (.ireturn, 1) := by decide +kernel
theorem dJ2_indexOfCharUnsafe_4cfef_22 : decode cJ2_indexOfCharUnsafe_4cfef 22 = .ok (.iinc 4 1, 3) := by decide +kernel
theorem dJ2_indexOfCharUnsafe_4cfef_25 : decode cJ2_indexOfCharUnsafe_4cfef 25 = .ok (.goto (-22), 3) := by decide +kernel
theorem dJ2_indexOfCharUnsafe_4cfef_28 : decode cJ2_indexOfCharUnsafe_4cfef 28 = .ok (.iconst (-1), 1) := by decide +kernel
theorem dJ2_indexOfCharUnsafe_4cfef_29 : decode cJ2_indexOfCharUnsafe_4cfef 29 = .ok (.ireturn, 1) := by decide +kernel
theorem dJ2_indexOfSupplementary_4cfef_0 : decode cJ2_indexOfSupplementary_4cfef 0 = .ok (.iload_n 1, 1) := by decide +kernel
theorem dJ2_indexOfSupplementary_4cfef_1 : decode cJ2_indexOfSupplementary_4cfef 1 = .ok (.invokestatic 164, 3) := by decide +kernel
theorem dJ2_indexOfSupplementary_4cfef_4 : decode cJ2_indexOfSupplementary_4cfef 4 = .ok (.ifCond .eq 65, 3) := by decide +kernel
theorem dJ2_indexOfSupplementary_4cfef_7 : decode cJ2_indexOfSupplementary_4cfef 7 = .ok (.iload_n 1, 1) := by decide +kernel
theorem dJ2_indexOfSupplementary_4cfef_8 : decode cJ2_indexOfSupplementary_4cfef 8 = .ok (.invokestatic 157, 3) := by decide +kernel
theorem dJ2_indexOfSupplementary_4cfef_11 : decode cJ2_indexOfSupplementary_4cfef 11 = .ok (.istore 4, 2) := by decide +kernel
theorem dJ2_indexOfSupplementary_4cfef_13 : decode cJ2_indexOfSupplementary_4cfef 13 = .ok (.iload_n 1, 1) := by decide +kernel
theorem dJ2_indexOfSupplementary_4cfef_14 : decode cJ2_indexOfSupplementary_4cfef 14 = .ok (.invokestatic 161, 3) := by decide +kernel
theorem dJ2_indexOfSupplementary_4cfef_17 : decode cJ2_indexOfSupplementary_4cfef 17 = .ok (.istore 5, 2) := by decide +kernel
theorem dJ2_indexOfSupplementary_4cfef_19 : decode cJ2_indexOfSupplementary_4cfef 19 = .ok (.iload_n 2, 1) := by decide +kernel
theorem dJ2_indexOfSupplementary_4cfef_20 : decode cJ2_indexOfSupplementary_4cfef 20 = .ok (.iload_n 3, 1) := by decide +kernel
theorem dJ2_indexOfSupplementary_4cfef_21 : decode cJ2_indexOfSupplementary_4cfef 21 = .ok (.aload_n 0, 1) := by decide +kernel
theorem dJ2_indexOfSupplementary_4cfef_22 : decode cJ2_indexOfSupplementary_4cfef 22 = .ok (.invokestatic 96, 3) := by decide +kernel
theorem dJ2_indexOfSupplementary_4cfef_25 : decode cJ2_indexOfSupplementary_4cfef 25 = .ok (.iload_n 2, 1) := by decide +kernel
theorem dJ2_indexOfSupplementary_4cfef_26 : decode cJ2_indexOfSupplementary_4cfef 26 = .ok (.istore 6, 2) := by decide +kernel
theorem dJ2_indexOfSupplementary_4cfef_28 : decode cJ2_indexOfSupplementary_4cfef 28 = .ok (.iload 6, 2) := by decide +kernel
theorem dJ2_indexOfSupplementary_4cfef_30 : decode cJ2_indexOfSupplementary_4cfef 30 = .ok (.iload_n 3, 1) := by decide +kernel
theorem dJ2_indexOfSupplementary_4cfef_31 : decode cJ2_indexOfSupplementary_4cfef 31 = .ok (.iconst 1, 1) := by decide +kernel
theorem dJ2_indexOfSupplementary_4cfef_32 : decode cJ2_indexOfSupplementary_4cfef 32 = .ok (.isub, 1) := by decide +kernel
theorem dJ2_indexOfSupplementary_4cfef_33 : decode cJ2_indexOfSupplementary_4cfef 33 = .ok (.if_icmp .ge 36, 3) := by decide +kernel
theorem dJ2_indexOfSupplementary_4cfef_36 : decode cJ2_indexOfSupplementary_4cfef 36 = .ok (.aload_n 0, 1) := by decide +kernel
theorem dJ2_indexOfSupplementary_4cfef_37 : decode cJ2_indexOfSupplementary_4cfef 37 = .ok (.iload 6, 2) := by decide +kernel
theorem dJ2_indexOfSupplementary_4cfef_39 : decode cJ2_indexOfSupplementary_4cfef 39 = .ok (.invokestatic 71, 3) := by decide +kernel
theorem dJ2_indexOfSupplementary_4cfef_42 : decode cJ2_indexOfSupplementary_4cfef 42 = .ok (.iload 4, 2) := by decide +kernel
theorem dJ2_indexOfSupplementary_4cfef_44 : decode cJ2_indexOfSupplementary_4cfef 44 = .ok (.if_icmp .ne 19, 3) := by decide +kernel
theorem dJ2_indexOfSupplementary_4cfef_47 : decode cJ2_indexOfSupplementary_4cfef 47 = .ok (.aload_n 0, 1) := by decide +kernel
theorem dJ2_indexOfSupplementary_4cfef_48 : decode cJ2_indexOfSupplementary_4cfef 48 = .ok (.iload 6, 2) := by decide +kernel
theorem dJ2_indexOfSupplementary_4cfef_50 : decode cJ2_indexOfSupplementary_4cfef 50 = .ok (.iconst 1, 1) := by decide +kernel
theorem dJ2_indexOfSupplementary_4cfef_51 : decode cJ2_indexOfSupplementary_4cfef 51 = .ok (.iadd, 1) := by decide +kernel
theorem dJ2_indexOfSupplementary_4cfef_52 : decode cJ2_indexOfSupplementary_4cfef 52 = .ok (.invokestatic 71, 3) := by decide +kernel
theorem dJ2_indexOfSupplementary_4cfef_55 : decode cJ2_indexOfSupplementary_4cfef 55 = .ok (.iload 5, 2) := by decide +kernel
theorem dJ2_indexOfSupplementary_4cfef_57 : decode cJ2_indexOfSupplementary_4cfef 57 = .ok (.if_icmp .ne 6, 3) := by decide +kernel
theorem dJ2_indexOfSupplementary_4cfef_60 : decode cJ2_indexOfSupplementary_4cfef 60 = .ok (.iload 6, 2) := by decide +kernel
theorem dJ2_indexOfSupplementary_4cfef_62 : decode cJ2_indexOfSupplementary_4cfef 62 = .ok (.ireturn, 1) := by decide +kernel
theorem dJ2_indexOfSupplementary_4cfef_63 : decode cJ2_indexOfSupplementary_4cfef 63 = .ok (.iinc 6 1, 3) := by decide +kernel
theorem dJ2_indexOfSupplementary_4cfef_66 : decode cJ2_indexOfSupplementary_4cfef 66 = .ok (.goto (-38), 3) := by decide +kernel
theorem dJ2_indexOfSupplementary_4cfef_69 : decode cJ2_indexOfSupplementary_4cfef 69 = .ok (.iconst (-1), 1) := by decide +kernel
theorem dJ2_indexOfSupplementary_4cfef_70 : decode cJ2_indexOfSupplementary_4cfef 70 = .ok (.ireturn, 1) := by decide +kernel
theorem dJ2_charAt_3b067_0 : decode cJ2_charAt_3b067 0 = .ok (.iload_n 1, 1) := by decide +kernel
theorem dJ2_charAt_3b067_1 : decode cJ2_charAt_3b067 1 = .ok (.aload_n 0, 1) := by decide +kernel
theorem dJ2_charAt_3b067_2 : decode cJ2_charAt_3b067 2 = .ok (.invokestatic 67, 3) := by decide +kernel
theorem dJ2_charAt_3b067_5 : decode cJ2_charAt_3b067 5 = .ok (.aload_n 0, 1) := by decide +kernel
theorem dJ2_charAt_3b067_6 : decode cJ2_charAt_3b067 6 = .ok (.iload_n 1, 1) := by decide +kernel
theorem dJ2_charAt_3b067_7 : decode cJ2_charAt_3b067 7 = .ok (.invokestatic 71, 3) := by decide +kernel
theorem dJ2_charAt_3b067_10 : decode cJ2_charAt_3b067 10 = .ok (.ireturn, 1) := by decide +kernel
theorem dJ2_checkIndex_2214a_0 : decode cJ2_checkIndex_2214a 0 = .ok (.iload_n 0, 1) := by decide +kernel
theorem dJ2_checkIndex_2214a_1 : decode cJ2_checkIndex_2214a 1 = .ok (.aload_n 1, 1) := by decide +kernel
theorem dJ2_checkIndex_2214a_2 : decode cJ2_checkIndex_2214a 2 = .ok (.invokestatic 48, 3) := by decide +kernel
theorem dJ2_checkIndex_2214a_5 : decode cJ2_checkIndex_2214a 5 = .ok (.invokestatic 414, 3) := by decide +kernel
theorem dJ2_checkIndex_2214a_8 : decode cJ2_checkIndex_2214a 8 = .ok (.return_, 1) := by decide +kernel
theorem dJ2_checkBoundsBeginEnd_d044e_0 : decode cJ2_checkBoundsBeginEnd_d044e 0 = .ok (.iload_n 0, 1) := by decide +kernel
theorem dJ2_checkBoundsBeginEnd_d044e_1 : decode cJ2_checkBoundsBeginEnd_d044e 1 = .ok (.iload_n 1, 1) := by decide +kernel
theorem dJ2_checkBoundsBeginEnd_d044e_2 : decode cJ2_checkBoundsBeginEnd_d044e 2 = .ok (.aload_n 2, 1) := by decide +kernel
theorem dJ2_checkBoundsBeginEnd_d044e_3 : decode cJ2_checkBoundsBeginEnd_d044e 3 = .ok (.invokestatic 48, 3) := by decide +kernel
theorem dJ2_checkBoundsBeginEnd_d044e_6 : decode cJ2_checkBoundsBeginEnd_d044e 6 = .ok (.invokestatic 241, 3) := by decide +kernel
theorem dJ2_checkBoundsBeginEnd_d044e_9 : decode cJ2_checkBoundsBeginEnd_d044e 9 = .ok (.return_, 1) := by decide +kernel
theorem dJ7_fill_d0a16_0 : decode cJ7_fill_d0a16 0 = .ok (.iconst 0, 1) := by decide +kernel
theorem dJ7_fill_d0a16_1 : decode cJ7_fill_d0a16 1 = .ok (.istore_n 3, 1) := by decide +kernel
theorem dJ7_fill_d0a16_2 : decode cJ7_fill_d0a16 2 = .ok (.aload_n 0, 1) := by decide +kernel
theorem dJ7_fill_d0a16_3 : decode cJ7_fill_d0a16 3 = .ok (.arraylength, 1) := by decide +kernel
theorem dJ7_fill_d0a16_4 : decode cJ7_fill_d0a16 4 = .ok (.istore 4, 2) := by decide +kernel
theorem dJ7_fill_d0a16_6 : decode cJ7_fill_d0a16 6 = .ok (.iload_n 3, 1) := by decide +kernel
theorem dJ7_fill_d0a16_7 : decode cJ7_fill_d0a16 7 = .ok (.iload 4, 2) := by decide +kernel
theorem dJ7_fill_d0a16_9 : decode cJ7_fill_d0a16 9 = .ok (.if_icmp .ge 13, 3) := by decide +kernel
theorem dJ7_fill_d0a16_12 : decode cJ7_fill_d0a16 12 = .ok (.aload_n 0, 1) := by decide +kernel
theorem dJ7_fill_d0a16_13 : decode cJ7_fill_d0a16 13 = .ok (.iload_n 3, 1) := by decide +kernel
theorem dJ7_fill_d0a16_14 : decode cJ7_fill_d0a16 14 = .ok (.lload_n 1, 1) := by decide +kernel
theorem dJ7_fill_d0a16_15 : decode cJ7_fill_d0a16 15 = .ok (.lastore, 1) := by decide +kernel
theorem dJ7_fill_d0a16_16 : decode cJ7_fill_d0a16 16 = .ok (.iinc 3 1, 3) := by decide +kernel
theorem dJ7_fill_d0a16_19 : decode cJ7_fill_d0a16 19 = .ok (.goto (-13), 3) := by decide +kernel
theorem dJ7_fill_d0a16_22 : decode cJ7_fill_d0a16 22 = .ok (.return_, 1) := by decide +kernel
theorem dJ7_fill_53178_0 : decode cJ7_fill_53178 0 = .ok (.iconst 0, 1) := by decide +kernel
theorem dJ7_fill_53178_1 : decode cJ7_fill_53178 1 = .ok (.istore_n 2, 1) := by decide +kernel
theorem dJ7_fill_53178_2 : decode cJ7_fill_53178 2 = .ok (.aload_n 0, 1) := by decide +kernel
theorem dJ7_fill_53178_3 : decode cJ7_fill_53178 3 = .ok (.arraylength, 1) := by decide +kernel
theorem dJ7_fill_53178_4 : decode cJ7_fill_53178 4 = .ok (.istore_n 3, 1) := by decide +kernel
theorem dJ7_fill_53178_5 : decode cJ7_fill_53178 5 = .ok (.iload_n 2, 1) := by decide +kernel
theorem dJ7_fill_53178_6 : decode cJ7_fill_53178 6 = .ok (.iload_n 3, 1) := by decide +kernel
theorem dJ7_fill_53178_7 : decode cJ7_fill_53178 7 = .ok (.if_icmp .ge 13, 3) := by decide +kernel
theorem dJ7_fill_53178_10 : decode cJ7_fill_53178 10 = .ok (.aload_n 0, 1) := by decide +kernel
theorem dJ7_fill_53178_11 : decode cJ7_fill_53178 11 = .ok (.iload_n 2, 1) := by decide +kernel
theorem dJ7_fill_53178_12 : decode cJ7_fill_53178 12 = .ok (.iload_n 1, 1) := by decide +kernel
theorem dJ7_fill_53178_13 : decode cJ7_fill_53178 13 = .ok (.iastore, 1) := by decide +kernel
theorem dJ7_fill_53178_14 : decode cJ7_fill_53178 14 = .ok (.iinc 2 1, 3) := by decide +kernel
theorem dJ7_fill_53178_17 : decode cJ7_fill_53178 17 = .ok (.goto (-12), 3) := by decide +kernel
theorem dJ7_fill_53178_20 : decode cJ7_fill_53178 20 = .ok (.return_, 1) := by decide +kernel
theorem dJ7_copyOf_59c91_0 : decode cJ7_copyOf_59c91 0 = .ok (.iload_n 1, 1) := by decide +kernel
theorem dJ7_copyOf_59c91_1 : decode cJ7_copyOf_59c91 1 = .ok (.aload_n 0, 1) := by decide +kernel
theorem dJ7_copyOf_59c91_2 : decode cJ7_copyOf_59c91 2 = .ok (.arraylength, 1) := by decide +kernel
theorem dJ7_copyOf_59c91_3 : decode cJ7_copyOf_59c91 3 = .ok (.if_icmp .ne 11, 3) := by decide +kernel
theorem dJ7_copyOf_59c91_6 : decode cJ7_copyOf_59c91 6 = .ok (.aload_n 0, 1) := by decide +kernel
theorem dJ7_copyOf_59c91_7 : decode cJ7_copyOf_59c91 7 = .ok (.invokevirtual 316, 3) := by decide +kernel
theorem dJ7_copyOf_59c91_10 : decode cJ7_copyOf_59c91 10 = .ok (.checkcast 317, 3) := by decide +kernel
theorem dJ7_copyOf_59c91_13 : decode cJ7_copyOf_59c91 13 = .ok (.areturn, 1) := by decide +kernel
theorem dJ7_copyOf_59c91_14 : decode cJ7_copyOf_59c91 14 = .ok (.iload_n 1, 1) := by decide +kernel
theorem dJ7_copyOf_59c91_15 : decode cJ7_copyOf_59c91 15 = .ok (.newarray .int, 2) := by decide +kernel
theorem dJ7_copyOf_59c91_17 : decode cJ7_copyOf_59c91 17 = .ok (.astore_n 2, 1) := by decide +kernel
theorem dJ7_copyOf_59c91_18 : decode cJ7_copyOf_59c91 18 = .ok (.aload_n 0, 1) := by decide +kernel
theorem dJ7_copyOf_59c91_19 : decode cJ7_copyOf_59c91 19 = .ok (.iconst 0, 1) := by decide +kernel
theorem dJ7_copyOf_59c91_20 : decode cJ7_copyOf_59c91 20 = .ok (.aload_n 2, 1) := by decide +kernel
theorem dJ7_copyOf_59c91_21 : decode cJ7_copyOf_59c91 21 = .ok (.iconst 0, 1) := by decide +kernel
theorem dJ7_copyOf_59c91_22 : decode cJ7_copyOf_59c91 22 = .ok (.aload_n 0, 1) := by decide +kernel
theorem dJ7_copyOf_59c91_23 : decode cJ7_copyOf_59c91 23 = .ok (.arraylength, 1) := by decide +kernel
theorem dJ7_copyOf_59c91_24 : decode cJ7_copyOf_59c91 24 = .ok (.iload_n 1, 1) := by decide +kernel
theorem dJ7_copyOf_59c91_25 : decode cJ7_copyOf_59c91 25 = .ok (.invokestatic 304, 3) := by decide +kernel
theorem dJ7_copyOf_59c91_28 : decode cJ7_copyOf_59c91 28 = .ok (.invokestatic 150, 3) := by decide +kernel
theorem dJ7_copyOf_59c91_31 : decode cJ7_copyOf_59c91 31 = .ok (.aload_n 2, 1) := by decide +kernel
theorem dJ7_copyOf_59c91_32 : decode cJ7_copyOf_59c91 32 = .ok (.areturn, 1) := by decide +kernel
theorem dJ3_checkIndex_8e157_0 : decode cJ3_checkIndex_8e157 0 = .ok (.iload_n 0, 1) := by decide +kernel
theorem dJ3_checkIndex_8e157_1 : decode cJ3_checkIndex_8e157 1 = .ok (.ifCond .lt 8, 3) := by decide +kernel
theorem dJ3_checkIndex_8e157_4 : decode cJ3_checkIndex_8e157 4 = .ok (.iload_n 0, 1) := by decide +kernel
theorem dJ3_checkIndex_8e157_5 : decode cJ3_checkIndex_8e157 5 = .ok (.iload_n 1, 1) := by decide +kernel
theorem dJ3_checkIndex_8e157_6 : decode cJ3_checkIndex_8e157 6 = .ok (.if_icmp .lt 10, 3) := by decide +kernel
theorem dJ3_checkIndex_8e157_9 : decode cJ3_checkIndex_8e157 9 = .ok (.aload_n 2, 1) := by decide +kernel
theorem dJ3_checkIndex_8e157_10 : decode cJ3_checkIndex_8e157 10 = .ok (.iload_n 0, 1) := by decide +kernel
theorem dJ3_checkIndex_8e157_11 : decode cJ3_checkIndex_8e157 11 = .ok (.iload_n 1, 1) := by decide +kernel
theorem dJ3_checkIndex_8e157_12 : decode cJ3_checkIndex_8e157 12 = .ok (.invokestatic 95, 3) := by decide +kernel
theorem dJ3_checkIndex_8e157_15 : decode cJ3_checkIndex_8e157 15 = .ok (.athrow, 1) := by decide +kernel
theorem dJ3_checkIndex_8e157_16 : decode cJ3_checkIndex_8e157 16 = .ok (.iload_n 0, 1) := by decide +kernel
theorem dJ3_checkIndex_8e157_17 : decode cJ3_checkIndex_8e157 17 = .ok (.ireturn, 1) := by decide +kernel
theorem dJ3_checkFromToIndex_8c36e_0 : decode cJ3_checkFromToIndex_8c36e 0 = .ok (.iload_n 0, 1) := by decide +kernel
theorem dJ3_checkFromToIndex_8c36e_1 : decode cJ3_checkFromToIndex_8c36e 1 = .ok (.ifCond .lt 13, 3) := by decide +kernel
theorem dJ3_checkFromToIndex_8c36e_4 : decode cJ3_checkFromToIndex_8c36e 4 = .ok (.iload_n 0, 1) := by decide +kernel
theorem dJ3_checkFromToIndex_8c36e_5 : decode cJ3_checkFromToIndex_8c36e 5 = .ok (.iload_n 1, 1) := by decide +kernel
theorem dJ3_checkFromToIndex_8c36e_6 : decode cJ3_checkFromToIndex_8c36e 6 = .ok (.if_icmp .gt 8, 3) := by decide +kernel
theorem dJ3_checkFromToIndex_8c36e_9 : decode cJ3_checkFromToIndex_8c36e 9 = .ok (.iload_n 1, 1) := by decide +kernel
theorem dJ3_checkFromToIndex_8c36e_10 : decode cJ3_checkFromToIndex_8c36e 10 = .ok (.iload_n 2, 1) := by decide +kernel
theorem dJ3_checkFromToIndex_8c36e_11 : decode cJ3_checkFromToIndex_8c36e 11 = .ok (.if_icmp .le 11, 3) := by decide +kernel
theorem dJ3_checkFromToIndex_8c36e_14 : decode cJ3_checkFromToIndex_8c36e 14 = .ok (.aload_n 3, 1) := by decide +kernel
theorem dJ3_checkFromToIndex_8c36e_15 : decode cJ3_checkFromToIndex_8c36e 15 = .ok (.iload_n 0, 1) := by decide +kernel
theorem dJ3_checkFromToIndex_8c36e_16 : decode cJ3_checkFromToIndex_8c36e 16 = .ok (.iload_n 1, 1) := by decide +kernel
theorem dJ3_checkFromToIndex_8c36e_17 : decode cJ3_checkFromToIndex_8c36e 17 = .ok (.iload_n 2, 1) := by decide +kernel
theorem dJ3_checkFromToIndex_8c36e_18 : decode cJ3_checkFromToIndex_8c36e 18 = .ok (.invokestatic 99, 3) := by decide +kernel
theorem dJ3_checkFromToIndex_8c36e_21 : decode cJ3_checkFromToIndex_8c36e 21 = .ok (.athrow, 1) := by decide +kernel
theorem dJ3_checkFromToIndex_8c36e_22 : decode cJ3_checkFromToIndex_8c36e 22 = .ok (.iload_n 0, 1) := by decide +kernel
theorem dJ3_checkFromToIndex_8c36e_23 : decode cJ3_checkFromToIndex_8c36e 23 = .ok (.ireturn, 1) := by decide +kernel
theorem dL_napkin_0 : decode cL_napkin 0 = .ok (.aload_n 2, 1) := by decide +kernel
theorem dL_napkin_1 : decode cL_napkin 1 = .ok (.iconst 0, 1) := by decide +kernel
theorem dL_napkin_2 : decode cL_napkin 2 = .ok (.aload_n 0, 1) := by decide +kernel
theorem dL_napkin_3 : decode cL_napkin 3 = .ok (.iload_n 1, 1) := by decide +kernel
theorem dL_napkin_4 : decode cL_napkin 4 = .ok (.invokevirtual 7, 3) := by decide +kernel
theorem dL_napkin_7 : decode cL_napkin 7 = .ok (.i2l, 1) := by decide +kernel
theorem dL_napkin_8 : decode cL_napkin 8 = .ok (.lastore, 1) := by decide +kernel
theorem dL_napkin_9 : decode cL_napkin 9 = .ok (.goto 6, 3) := by decide +kernel
theorem dL_napkin_12 : decode cL_napkin 12 = .ok (.astore_n 3, 1) := by decide +kernel
theorem dL_napkin_13 : decode cL_napkin 13 = .ok (.iconst 1, 1) := by decide +kernel
theorem dL_napkin_14 : decode cL_napkin 14 = .ok (.ireturn, 1) := by decide +kernel
theorem dL_napkin_15 : decode cL_napkin 15 = .ok (.iconst 0, 1) := by decide +kernel
theorem dL_napkin_16 : decode cL_napkin 16 = .ok (.ireturn, 1) := by decide +kernel
theorem dL_cell_0 : decode cL_cell 0 = .ok (.aload_n 3, 1) := by decide +kernel
theorem dL_cell_1 : decode cL_cell 1 = .ok (.iconst 0, 1) := by decide +kernel
theorem dL_cell_2 : decode cL_cell 2 = .ok (.aload_n 0, 1) := by decide +kernel
theorem dL_cell_3 : decode cL_cell 3 = .ok (.iload_n 1, 1) := by decide +kernel
theorem dL_cell_4 : decode cL_cell 4 = .ok (.iload_n 2, 1) := by decide +kernel
theorem dL_cell_5 : decode cL_cell 5 = .ok (.invokevirtual 15, 3) := by decide +kernel
theorem dL_cell_8 : decode cL_cell 8 = .ok (.i2l, 1) := by decide +kernel
theorem dL_cell_9 : decode cL_cell 9 = .ok (.lastore, 1) := by decide +kernel
theorem dL_cell_10 : decode cL_cell 10 = .ok (.goto 11, 3) := by decide +kernel
theorem dL_cell_13 : decode cL_cell 13 = .ok (.astore 4, 2) := by decide +kernel
theorem dL_cell_15 : decode cL_cell 15 = .ok (.iconst 1, 1) := by decide +kernel
theorem dL_cell_16 : decode cL_cell 16 = .ok (.ireturn, 1) := by decide +kernel
theorem dL_cell_17 : decode cL_cell 17 = .ok (.astore 4, 2) := by decide +kernel
theorem dL_cell_19 : decode cL_cell 19 = .ok (.iconst 2, 1) := by decide +kernel
theorem dL_cell_20 : decode cL_cell 20 = .ok (.ireturn, 1) := by decide +kernel
theorem dL_cell_21 : decode cL_cell 21 = .ok (.iconst 0, 1) := by decide +kernel
theorem dL_cell_22 : decode cL_cell 22 = .ok (.ireturn, 1) := by decide +kernel
theorem dL_high_0 : decode cL_high 0 = .ok (.aload_n 2, 1) := by decide +kernel
theorem dL_high_1 : decode cL_high 1 = .ok (.iconst 0, 1) := by decide +kernel
theorem dL_high_2 : decode cL_high 2 = .ok (.aload_n 0, 1) := by decide +kernel
theorem dL_high_3 : decode cL_high 3 = .ok (.iload_n 1, 1) := by decide +kernel
theorem dL_high_4 : decode cL_high 4 = .ok (.invokevirtual 21, 3) := by decide +kernel
theorem dL_high_7 : decode cL_high 7 = .ok (.i2l, 1) := by decide +kernel
theorem dL_high_8 : decode cL_high 8 = .ok (.lastore, 1) := by decide +kernel
theorem dL_high_9 : decode cL_high 9 = .ok (.goto 6, 3) := by decide +kernel
theorem dL_high_12 : decode cL_high 12 = .ok (.astore_n 3, 1) := by decide +kernel
theorem dL_high_13 : decode cL_high 13 = .ok (.iconst 1, 1) := by decide +kernel
theorem dL_high_14 : decode cL_high 14 = .ok (.ireturn, 1) := by decide +kernel
theorem dL_high_15 : decode cL_high 15 = .ok (.iconst 0, 1) := by decide +kernel
theorem dL_high_16 : decode cL_high 16 = .ok (.ireturn, 1) := by decide +kernel
theorem dL_layer_0 : decode cL_layer 0 = .ok (.aload_n 3, 1) := by decide +kernel
theorem dL_layer_1 : decode cL_layer 1 = .ok (.iconst 0, 1) := by decide +kernel
theorem dL_layer_2 : decode cL_layer 2 = .ok (.aload_n 0, 1) := by decide +kernel
theorem dL_layer_3 : decode cL_layer 3 = .ok (.iload_n 1, 1) := by decide +kernel
theorem dL_layer_4 : decode cL_layer 4 = .ok (.iload_n 2, 1) := by decide +kernel
theorem dL_layer_5 : decode cL_layer 5 = .ok (.invokevirtual 24, 3) := by decide +kernel
theorem dL_layer_8 : decode cL_layer 8 = .ok (.i2l, 1) := by decide +kernel
theorem dL_layer_9 : decode cL_layer 9 = .ok (.lastore, 1) := by decide +kernel
theorem dL_layer_10 : decode cL_layer 10 = .ok (.goto 11, 3) := by decide +kernel
theorem dL_layer_13 : decode cL_layer 13 = .ok (.astore 4, 2) := by decide +kernel
theorem dL_layer_15 : decode cL_layer 15 = .ok (.iconst 1, 1) := by decide +kernel
theorem dL_layer_16 : decode cL_layer 16 = .ok (.ireturn, 1) := by decide +kernel
theorem dL_layer_17 : decode cL_layer 17 = .ok (.astore 4, 2) := by decide +kernel
theorem dL_layer_19 : decode cL_layer 19 = .ok (.iconst 2, 1) := by decide +kernel
theorem dL_layer_20 : decode cL_layer 20 = .ok (.ireturn, 1) := by decide +kernel
theorem dL_layer_21 : decode cL_layer 21 = .ok (.iconst 0, 1) := by decide +kernel
theorem dL_layer_22 : decode cL_layer 22 = .ok (.ireturn, 1) := by decide +kernel
theorem dL_above_0 : decode cL_above 0 = .ok (.aload_n 2, 1) := by decide +kernel
theorem dL_above_1 : decode cL_above 1 = .ok (.iconst 0, 1) := by decide +kernel
theorem dL_above_2 : decode cL_above 2 = .ok (.aload_n 0, 1) := by decide +kernel
theorem dL_above_3 : decode cL_above 3 = .ok (.iload_n 1, 1) := by decide +kernel
theorem dL_above_4 : decode cL_above 4 = .ok (.invokevirtual 27, 3) := by decide +kernel
theorem dL_above_7 : decode cL_above 7 = .ok (.i2l, 1) := by decide +kernel
theorem dL_above_8 : decode cL_above 8 = .ok (.lastore, 1) := by decide +kernel
theorem dL_above_9 : decode cL_above 9 = .ok (.goto 6, 3) := by decide +kernel
theorem dL_above_12 : decode cL_above 12 = .ok (.astore_n 3, 1) := by decide +kernel
theorem dL_above_13 : decode cL_above 13 = .ok (.iconst 1, 1) := by decide +kernel
theorem dL_above_14 : decode cL_above 14 = .ok (.ireturn, 1) := by decide +kernel
theorem dL_above_15 : decode cL_above 15 = .ok (.iconst 0, 1) := by decide +kernel
theorem dL_above_16 : decode cL_above 16 = .ok (.ireturn, 1) := by decide +kernel
theorem dL_beneath_0 : decode cL_beneath 0 = .ok (.aload_n 2, 1) := by decide +kernel
theorem dL_beneath_1 : decode cL_beneath 1 = .ok (.iconst 0, 1) := by decide +kernel
theorem dL_beneath_2 : decode cL_beneath 2 = .ok (.aload_n 0, 1) := by decide +kernel
theorem dL_beneath_3 : decode cL_beneath 3 = .ok (.iload_n 1, 1) := by decide +kernel
theorem dL_beneath_4 : decode cL_beneath 4 = .ok (.invokevirtual 30, 3) := by decide +kernel
theorem dL_beneath_7 : decode cL_beneath 7 = .ok (.i2l, 1) := by decide +kernel
theorem dL_beneath_8 : decode cL_beneath 8 = .ok (.lastore, 1) := by decide +kernel
theorem dL_beneath_9 : decode cL_beneath 9 = .ok (.goto 6, 3) := by decide +kernel
theorem dL_beneath_12 : decode cL_beneath 12 = .ok (.astore_n 3, 1) := by decide +kernel
theorem dL_beneath_13 : decode cL_beneath 13 = .ok (.iconst 1, 1) := by decide +kernel
theorem dL_beneath_14 : decode cL_beneath 14 = .ok (.ireturn, 1) := by decide +kernel
theorem dL_beneath_15 : decode cL_beneath 15 = .ok (.iconst 0, 1) := by decide +kernel
theorem dL_beneath_16 : decode cL_beneath 16 = .ok (.ireturn, 1) := by decide +kernel
theorem dL_crease_0 : decode cL_crease 0 = .ok (.aload_n 2, 1) := by decide +kernel
theorem dL_crease_1 : decode cL_crease 1 = .ok (.iconst 0, 1) := by decide +kernel
theorem dL_crease_2 : decode cL_crease 2 = .ok (.aload_n 0, 1) := by decide +kernel
theorem dL_crease_3 : decode cL_crease 3 = .ok (.iload_n 1, 1) := by decide +kernel
theorem dL_crease_4 : decode cL_crease 4 = .ok (.invokevirtual 33, 3) := by decide +kernel
theorem dL_crease_7 : decode cL_crease 7 = .ok (.i2l, 1) := by decide +kernel
theorem dL_crease_8 : decode cL_crease 8 = .ok (.lastore, 1) := by decide +kernel
theorem dL_crease_9 : decode cL_crease 9 = .ok (.goto 6, 3) := by decide +kernel
theorem dL_crease_12 : decode cL_crease 12 = .ok (.astore_n 3, 1) := by decide +kernel
theorem dL_crease_13 : decode cL_crease 13 = .ok (.iconst 1, 1) := by decide +kernel
theorem dL_crease_14 : decode cL_crease 14 = .ok (.ireturn, 1) := by decide +kernel
theorem dL_crease_15 : decode cL_crease 15 = .ok (.iconst 0, 1) := by decide +kernel
theorem dL_crease_16 : decode cL_crease 16 = .ok (.ireturn, 1) := by decide +kernel
theorem dL_folded_0 : decode cL_folded 0 = .ok (.aload_n 2, 1) := by decide +kernel
theorem dL_folded_1 : decode cL_folded 1 = .ok (.iconst 0, 1) := by decide +kernel
theorem dL_folded_2 : decode cL_folded 2 = .ok (.aload_n 0, 1) := by decide +kernel
