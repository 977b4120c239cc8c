theorem dX9_init_0 : decode cX9_init 0 = .ok (.aload_n 0, 1) := by decide +kernel
theorem dX9_init_1 : decode cX9_init 1 = .ok (.invokespecial 3, 3) := by decide +kernel
theorem dX9_init_4 : decode cX9_init 4 = .ok (.aload_n 0, 1) := by decide +kernel
theorem dX9_init_5 : decode cX9_init 5 = .ok (.new 9, 3) := by decide +kernel
theorem dX9_init_8 : decode cX9_init 8 = .ok (.dup, 1) := by decide +kernel
theorem dX9_init_9 : decode cX9_init 9 = .ok (.invokespecial 11, 3) := by decide +kernel
theorem dX9_init_12 : decode cX9_init 12 = .ok (.putfield 12, 3) := by decide +kernel
theorem dX9_init_15 : decode cX9_init 15 = .ok (.aload_n 0, 1) := by decide +kernel
theorem dX9_init_16 : decode cX9_init 16 = .ok (.bipush 8, 2) := by decide +kernel
theorem dX9_init_18 : decode cX9_init 18 = .ok (.anewarray 16, 3) := by decide +kernel
theorem dX9_init_21 : decode cX9_init 21 = .ok (.putfield 18, 3) := by decide +kernel
theorem dX9_init_24 : decode cX9_init 24 = .ok (.aload_n 0, 1) := by decide +kernel
theorem dX9_init_25 : decode cX9_init 25 = .ok (.new 16, 3) := by decide +kernel
theorem dX9_init_28 : decode cX9_init 28 = .ok (.dup, 1) := by decide +kernel
theorem dX9_init_29 : decode cX9_init 29 = .ok (.invokespecial 22, 3) := by decide +kernel
theorem dX9_init_32 : decode cX9_init 32 = .ok (.putfield 23, 3) := by decide +kernel
theorem dX9_init_35 : decode cX9_init 35 = .ok (.aload_n 0, 1) := by decide +kernel
theorem dX9_init_36 : decode cX9_init 36 = .ok (.new 27, 3) := by decide +kernel
theorem dX9_init_39 : decode cX9_init 39 = .ok (.dup, 1) := by decide +kernel
theorem dX9_init_40 : decode cX9_init 40 = .ok (.invokespecial 29, 3) := by decide +kernel
theorem dX9_init_43 : decode cX9_init 43 = .ok (.putfield 30, 3) := by decide +kernel
theorem dX9_init_46 : decode cX9_init 46 = .ok (.aload_n 0, 1) := by decide +kernel
theorem dX9_init_47 : decode cX9_init 47 = .ok (.new 34, 3) := by decide +kernel
theorem dX9_init_50 : decode cX9_init 50 = .ok (.dup, 1) := by decide +kernel
theorem dX9_init_51 : decode cX9_init 51 = .ok (.aload_n 0, 1) := by decide +kernel
theorem dX9_init_52 : decode cX9_init 52 = .ok (.getfield 30, 3) := by decide +kernel
theorem dX9_init_55 : decode cX9_init 55 = .ok (.invokespecial 36, 3) := by decide +kernel
theorem dX9_init_58 : decode cX9_init 58 = .ok (.putfield 39, 3) := by decide +kernel
theorem dX9_init_61 : decode cX9_init 61 = .ok (.aload_n 0, 1) := by decide +kernel
theorem dX9_init_62 : decode cX9_init 62 = .ok (.bipush 20, 2) := by decide +kernel
theorem dX9_init_64 : decode cX9_init 64 = .ok (.anewarray 43, 3) := by decide +kernel
theorem dX9_init_67 : decode cX9_init 67 = .ok (.putfield 45, 3) := by decide +kernel
theorem dX9_init_70 : decode cX9_init 70 = .ok (.aload_n 0, 1) := by decide +kernel
theorem dX9_init_71 : decode cX9_init 71 = .ok (.bipush 20, 2) := by decide +kernel
theorem dX9_init_73 : decode cX9_init 73 = .ok (.newarray .int, 2) := by decide +kernel
theorem dX9_init_75 : decode cX9_init 75 = .ok (.putfield 49, 3) := by decide +kernel
theorem dX9_init_78 : decode cX9_init 78 = .ok (.aload_n 0, 1) := by decide +kernel
theorem dX9_init_79 : decode cX9_init 79 = .ok (.bipush 20, 2) := by decide +kernel
theorem dX9_init_81 : decode cX9_init 81 = .ok (.newarray .int, 2) := by decide +kernel
theorem dX9_init_83 : decode cX9_init 83 = .ok (.putfield 53, 3) := by decide +kernel
theorem dX9_init_86 : decode cX9_init 86 = .ok (.aload_n 0, 1) := by decide +kernel
theorem dX9_init_87 : decode cX9_init 87 = .ok (.bipush 10, 2) := by decide +kernel
theorem dX9_init_89 : decode cX9_init 89 = .ok (.newarray .int, 2) := by decide +kernel
theorem dX9_init_91 : decode cX9_init 91 = .ok (.putfield 56, 3) := by decide +kernel
theorem dX9_init_94 : decode cX9_init 94 = .ok (.aload_n 0, 1) := by decide +kernel
theorem dX9_init_95 : decode cX9_init 95 = .ok (.bipush 10, 2) := by decide +kernel
theorem dX9_init_97 : decode cX9_init 97 = .ok (.newarray .int, 2) := by decide +kernel
theorem dX9_init_99 : decode cX9_init 99 = .ok (.putfield 59, 3) := by decide +kernel
theorem dX9_init_102 : decode cX9_init 102 = .ok (.aload_n 0, 1) := by decide +kernel
theorem dX9_init_103 : decode cX9_init 103 = .ok (.bipush 11, 2) := by decide +kernel
theorem dX9_init_105 : decode cX9_init 105 = .ok (.newarray .int, 2) := by decide +kernel
theorem dX9_init_107 : decode cX9_init 107 = .ok (.putfield 62, 3) := by decide +kernel
theorem dX9_init_110 : decode cX9_init 110 = .ok (.aload_n 0, 1) := by decide +kernel
theorem dX9_init_111 : decode cX9_init 111 = .ok (.new 16, 3) := by decide +kernel
theorem dX9_init_114 : decode cX9_init 114 = .ok (.dup, 1) := by decide +kernel
theorem dX9_init_115 : decode cX9_init 115 = .ok (.invokespecial 22, 3) := by decide +kernel
theorem dX9_init_118 : decode cX9_init 118 = .ok (.putfield 65, 3) := by decide +kernel
theorem dX9_init_121 : decode cX9_init 121 = .ok (.aload_n 0, 1) := by decide +kernel
theorem dX9_init_122 : decode cX9_init 122 = .ok (.iconst 0, 1) := by decide +kernel
theorem dX9_init_123 : decode cX9_init 123 = .ok (.putfield 68, 3) := by decide +kernel
theorem dX9_init_126 : decode cX9_init 126 = .ok (.aload_n 0, 1) := by decide +kernel
theorem dX9_init_127 : decode cX9_init 127 = .ok (.iconst 0, 1) := by decide +kernel
theorem dX9_init_128 : decode cX9_init 128 = .ok (.putfield 72, 3) := by decide +kernel
theorem dX9_init_131 : decode cX9_init 131 = .ok (.iconst 0, 1) := by decide +kernel
theorem dX9_init_132 : decode cX9_init 132 = .ok (.istore_n 1, 1) := by decide +kernel
theorem dX9_init_133 : decode cX9_init 133 = .ok (.iload_n 1, 1) := by decide +kernel
theorem dX9_init_134 : decode cX9_init 134 = .ok (.aload_n 0, 1) := by decide +kernel
theorem dX9_init_135 : decode cX9_init 135 = .ok (.getfield 18, 3) := by decide +kernel
theorem dX9_init_138 : decode cX9_init 138 = .ok (.arraylength, 1) := by decide +kernel
theorem dX9_init_139 : decode cX9_init 139 = .ok (.if_icmp .ge 22, 3) := by decide +kernel
theorem dX9_init_142 : decode cX9_init 142 = .ok (.aload_n 0, 1) := by decide +kernel
theorem dX9_init_143 : decode cX9_init 143 = .ok (.getfield 18, 3) := by decide +kernel
theorem dX9_init_146 : decode cX9_init 146 = .ok (.iload_n 1, 1) := by decide +kernel
theorem dX9_init_147 : decode cX9_init 147 = .ok (.new 16, 3) := by decide +kernel
theorem dX9_init_150 : decode cX9_init 150 = .ok (.dup, 1) := by decide +kernel
theorem dX9_init_151 : decode cX9_init 151 = .ok (.invokespecial 22, 3) := by decide +kernel
theorem dX9_init_154 : decode cX9_init 154 = .ok (.aastore, 1) := by decide +kernel
theorem dX9_init_155 : decode cX9_init 155 = .ok (.iinc 1 1, 3) := by decide +kernel
theorem dX9_init_158 : decode cX9_init 158 = .ok (.goto (-25), 3) := by decide +kernel
theorem dX9_init_161 : decode cX9_init 161 = .ok (.iconst 0, 1) := by decide +kernel
theorem dX9_init_162 : decode cX9_init 162 = .ok (.istore_n 1, 1) := by decide +kernel
theorem dX9_init_163 : decode cX9_init 163 = .ok (.iconst 0, 1) := by decide +kernel
theorem dX9_init_164 : decode cX9_init 164 = .ok (.istore_n 2, 1) := by decide +kernel
theorem dX9_init_165 : decode cX9_init 165 = .ok (.iload_n 2, 1) := by decide +kernel
theorem dX9_init_166 : decode cX9_init 166 = .ok (.iconst 4, 1) := by decide +kernel
theorem dX9_init_167 : decode cX9_init 167 = .ok (.if_icmp .ge 51, 3) := by decide +kernel
theorem dX9_init_170 : decode cX9_init 170 = .ok (.iconst 2, 1) := by decide +kernel
theorem dX9_init_171 : decode cX9_init 171 = .ok (.istore_n 3, 1) := by decide +kernel
theorem dX9_init_172 : decode cX9_init 172 = .ok (.iload_n 3, 1) := by decide +kernel
theorem dX9_init_173 : decode cX9_init 173 = .ok (.bipush 6, 2) := by decide +kernel
theorem dX9_init_175 : decode cX9_init 175 = .ok (.if_icmp .gt 37, 3) := by decide +kernel
theorem dX9_init_178 : decode cX9_init 178 = .ok (.iload_n 1, 1) := by decide +kernel
theorem dX9_init_179 : decode cX9_init 179 = .ok (.aload_n 0, 1) := by decide +kernel
theorem dX9_init_180 : decode cX9_init 180 = .ok (.getfield 45, 3) := by decide +kernel
theorem dX9_init_183 : decode cX9_init 183 = .ok (.arraylength, 1) := by decide +kernel
theorem dX9_init_184 : decode cX9_init 184 = .ok (.if_icmp .ge 28, 3) := by decide +kernel
theorem dX9_init_187 : decode cX9_init 187 = .ok (.aload_n 0, 1) := by decide +kernel
theorem dX9_init_188 : decode cX9_init 188 = .ok (.getfield 45, 3) := by decide +kernel
theorem dX9_init_191 : decode cX9_init 191 = .ok (.iload_n 1, 1) := by decide +kernel
theorem dX9_init_192 : decode cX9_init 192 = .ok (.new 43, 3) := by decide +kernel
theorem dX9_init_195 : decode cX9_init 195 = .ok (.dup, 1) := by decide +kernel
theorem dX9_init_196 : decode cX9_init 196 = .ok (.iload_n 2, 1) := by decide +kernel
theorem dX9_init_197 : decode cX9_init 197 = .ok (.iload_n 3, 1) := by decide +kernel
theorem dX9_init_198 : decode cX9_init 198 = .ok (.iconst 0, 1) := by decide +kernel
theorem dX9_init_199 : decode cX9_init 199 = .ok (.invokespecial 76, 3) := by decide +kernel
theorem dX9_init_202 : decode cX9_init 202 = .ok (.aastore, 1) := by decide +kernel
theorem dX9_init_203 : decode cX9_init 203 = .ok (.iinc 1 1, 3) := by decide +kernel
theorem dX9_init_206 : decode cX9_init 206 = .ok (.iinc 3 1, 3) := by decide +kernel
theorem dX9_init_209 : decode cX9_init 209 = .ok (.goto (-37), 3) := by decide +kernel
theorem dX9_init_212 : decode cX9_init 212 = .ok (.iinc 2 1, 3) := by decide +kernel
theorem dX9_init_215 : decode cX9_init 215 = .ok (.goto (-50), 3) := by decide +kernel
theorem dX9_init_218 : decode cX9_init 218 = .ok (.return_, 1) := by decide +kernel
theorem dX9_feed_0 : decode cX9_feed 0 = .ok (.aload_n 0, 1) := by decide +kernel
theorem dX9_feed_1 : decode cX9_feed 1 = .ok (.getfield 12, 3) := by decide +kernel
theorem dX9_feed_4 : decode cX9_feed 4 = .ok (.getfield 79, 3) := by decide +kernel
theorem dX9_feed_7 : decode cX9_feed 7 = .ok (.bipush 60, 2) := by decide +kernel
theorem dX9_feed_9 : decode cX9_feed 9 = .ok (.if_icmp .lt 13, 3) := by decide +kernel
theorem dX9_feed_12 : decode cX9_feed 12 = .ok (.new 82, 3) := by decide +kernel
theorem dX9_feed_15 : decode cX9_feed 15 = .ok (.dup, 1) := by decide +kernel
theorem dX9_feed_16 : decode cX9_feed 16 = .ok (.ldc 84, 2) := by decide +kernel
theorem dX9_feed_18 : decode cX9_feed 18 = .ok (.invokespecial 86, 3) := by decide +kernel
theorem dX9_feed_21 : decode cX9_feed 21 = .ok (.athrow, 1) := by decide +kernel
theorem dX9_feed_22 : decode cX9_feed 22 = .ok (.aload_n 0, 1) := by decide +kernel
theorem dX9_feed_23 : decode cX9_feed 23 = .ok (.getfield 12, 3) := by decide +kernel
theorem dX9_feed_26 : decode cX9_feed 26 = .ok (.iload_n 1, 1) := by decide +kernel
theorem dX9_feed_27 : decode cX9_feed 27 = .ok (.invokevirtual 89, 3) := by decide +kernel
theorem dX9_feed_30 : decode cX9_feed 30 = .ok (.ireturn, 1) := by decide +kernel
theorem dX9_errorPosition_0 : decode cX9_errorPosition 0 = .ok (.aload_n 0, 1) := by decide +kernel
theorem dX9_errorPosition_1 : decode cX9_errorPosition 1 = .ok (.getfield 12, 3) := by decide +kernel
theorem dX9_errorPosition_4 : decode cX9_errorPosition 4 = .ok (.getfield 93, 3) := by decide +kernel
theorem dX9_errorPosition_7 : decode cX9_errorPosition 7 = .ok (.iconst (-1), 1) := by decide +kernel
theorem dX9_errorPosition_8 : decode cX9_errorPosition 8 = .ok (.if_icmp .ne 13, 3) := by decide +kernel
theorem dX9_errorPosition_11 : decode cX9_errorPosition 11 = .ok (.new 96, 3) := by decide +kernel
theorem dX9_errorPosition_14 : decode cX9_errorPosition 14 = .ok (.dup, 1) := by decide +kernel
theorem dX9_errorPosition_15 : decode cX9_errorPosition 15 = .ok (.ldc 98, 2) := by decide +kernel
theorem dX9_errorPosition_17 : decode cX9_errorPosition 17 = .ok (.invokespecial 100, 3) := by decide +kernel
theorem dX9_errorPosition_20 : decode cX9_errorPosition 20 = .ok (.athrow, 1) := by decide +kernel
theorem dX9_errorPosition_21 : decode cX9_errorPosition 21 = .ok (.aload_n 0, 1) := by decide +kernel
theorem dX9_errorPosition_22 : decode cX9_errorPosition 22 = .ok (.getfield 12, 3) := by decide +kernel
theorem dX9_errorPosition_25 : decode cX9_errorPosition 25 = .ok (.getfield 93, 3) := by decide +kernel
theorem dX9_errorPosition_28 : decode cX9_errorPosition 28 = .ok (.ireturn, 1) := by decide +kernel
theorem dX9_setMetre_0 : decode cX9_setMetre 0 = .ok (.iload_n 1, 1) := by decide +kernel
theorem dX9_setMetre_1 : decode cX9_setMetre 1 = .ok (.ifCond .lt 28, 3) := by decide +kernel
theorem dX9_setMetre_4 : decode cX9_setMetre 4 = .ok (.iload_n 1, 1) := by decide +kernel
theorem dX9_setMetre_5 : decode cX9_setMetre 5 = .ok (.iconst 4, 1) := by decide +kernel
theorem dX9_setMetre_6 : decode cX9_setMetre 6 = .ok (.if_icmp .ge 23, 3) := by decide +kernel
theorem dX9_setMetre_9 : decode cX9_setMetre 9 = .ok (.iload_n 2, 1) := by decide +kernel
theorem dX9_setMetre_10 : decode cX9_setMetre 10 = .ok (.iconst 2, 1) := by decide +kernel
theorem dX9_setMetre_11 : decode cX9_setMetre 11 = .ok (.if_icmp .lt 18, 3) := by decide +kernel
theorem dX9_setMetre_14 : decode cX9_setMetre 14 = .ok (.iload_n 2, 1) := by decide +kernel
theorem dX9_setMetre_15 : decode cX9_setMetre 15 = .ok (.bipush 6, 2) := by decide +kernel
theorem dX9_setMetre_17 : decode cX9_setMetre 17 = .ok (.if_icmp .gt 12, 3) := by decide +kernel
theorem dX9_setMetre_20 : decode cX9_setMetre 20 = .ok (.iload_n 3, 1) := by decide +kernel
theorem dX9_setMetre_21 : decode cX9_setMetre 21 = .ok (.ifCond .lt 8, 3) := by decide +kernel
theorem dX9_setMetre_24 : decode cX9_setMetre 24 = .ok (.iload_n 3, 1) := by decide +kernel
theorem dX9_setMetre_25 : decode cX9_setMetre 25 = .ok (.iload_n 2, 1) := by decide +kernel
theorem dX9_setMetre_26 : decode cX9_setMetre 26 = .ok (.if_icmp .lt 13, 3) := by decide +kernel
theorem dX9_setMetre_29 : decode cX9_setMetre 29 = .ok (.new 101, 3) := by decide +kernel
theorem dX9_setMetre_32 : decode cX9_setMetre 32 = .ok (.dup, 1) := by decide +kernel
theorem dX9_setMetre_33 : decode cX9_setMetre 33 = .ok (.ldc 103, 2) := by decide +kernel
theorem dX9_setMetre_35 : decode cX9_setMetre 35 = .ok (.invokespecial 105, 3) := by decide +kernel
theorem dX9_setMetre_38 : decode cX9_setMetre 38 = .ok (.athrow, 1) := by decide +kernel
theorem dX9_setMetre_39 : decode cX9_setMetre 39 = .ok (.aload_n 0, 1) := by decide +kernel
theorem dX9_setMetre_40 : decode cX9_setMetre 40 = .ok (.invokevirtual 106, 3) := by decide +kernel
theorem dX9_setMetre_43 : decode cX9_setMetre 43 = .ok (.aload_n 0, 1) := by decide +kernel
theorem dX9_setMetre_44 : decode cX9_setMetre 44 = .ok (.getfield 65, 3) := by decide +kernel
theorem dX9_setMetre_47 : decode cX9_setMetre 47 = .ok (.getfield 109, 3) := by decide +kernel
theorem dX9_setMetre_50 : decode cX9_setMetre 50 = .ok (.astore 4, 2) := by decide +kernel
theorem dX9_setMetre_52 : decode cX9_setMetre 52 = .ok (.aload_n 0, 1) := by decide +kernel
theorem dX9_setMetre_53 : decode cX9_setMetre 53 = .ok (.getfield 65, 3) := by decide +kernel
theorem dX9_setMetre_56 : decode cX9_setMetre 56 = .ok (.new 43, 3) := by decide +kernel
theorem dX9_setMetre_59 : decode cX9_setMetre 59 = .ok (.dup, 1) := by decide +kernel
theorem dX9_setMetre_60 : decode cX9_setMetre 60 = .ok (.iload_n 1, 1) := by decide +kernel
theorem dX9_setMetre_61 : decode cX9_setMetre 61 = .ok (.iload_n 2, 1) := by decide +kernel
theorem dX9_setMetre_62 : decode cX9_setMetre 62 = .ok (.iload_n 3, 1) := by decide +kernel
theorem dX9_setMetre_63 : decode cX9_setMetre 63 = .ok (.invokespecial 76, 3) := by decide +kernel
theorem dX9_setMetre_66 : decode cX9_setMetre 66 = .ok (.putfield 109, 3) := by decide +kernel
theorem dX9_setMetre_69 : decode cX9_setMetre 69 = .ok (.bipush 100, 2) := by decide +kernel
theorem dX9_setMetre_71 : decode cX9_setMetre 71 = .ok (.aload 4, 2) := by decide +kernel
theorem dX9_setMetre_73 : decode cX9_setMetre 73 = .ok (.getfield 113, 3) := by decide +kernel
theorem dX9_setMetre_76 : decode cX9_setMetre 76 = .ok (.imul, 1) := by decide +kernel
theorem dX9_setMetre_77 : decode cX9_setMetre 77 = .ok (.bipush 10, 2) := by decide +kernel
theorem dX9_setMetre_79 : decode cX9_setMetre 79 = .ok (.aload 4, 2) := by decide +kernel
theorem dX9_setMetre_81 : decode cX9_setMetre 81 = .ok (.getfield 116, 3) := by decide +kernel
theorem dX9_setMetre_84 : decode cX9_setMetre 84 = .ok (.imul, 1) := by decide +kernel
theorem dX9_setMetre_85 : decode cX9_setMetre 85 = .ok (.iadd, 1) := by decide +kernel
theorem dX9_setMetre_86 : decode cX9_setMetre 86 = .ok (.aload 4, 2) := by decide +kernel
theorem dX9_setMetre_88 : decode cX9_setMetre 88 = .ok (.getfield 119, 3) := by decide +kernel
theorem dX9_setMetre_91 : decode cX9_setMetre 91 = .ok (.iadd, 1) := by decide +kernel
theorem dX9_setMetre_92 : decode cX9_setMetre 92 = .ok (.ireturn, 1) := by decide +kernel
theorem dX9_readMetre_0 : decode cX9_readMetre 0 = .ok (.aload_n 0, 1) := by decide +kernel
theorem dX9_readMetre_1 : decode cX9_readMetre 1 = .ok (.getfield 12, 3) := by decide +kernel
theorem dX9_readMetre_4 : decode cX9_readMetre 4 = .ok (.invokevirtual 122, 3) := by decide +kernel
theorem dX9_readMetre_7 : decode cX9_readMetre 7 = .ok (.astore_n 1, 1) := by decide +kernel
theorem dX9_readMetre_8 : decode cX9_readMetre 8 = .ok (.aload_n 1, 1) := by decide +kernel
theorem dX9_readMetre_9 : decode cX9_readMetre 9 = .ok (.ifnonnull 13, 3) := by decide +kernel
theorem dX9_readMetre_12 : decode cX9_readMetre 12 = .ok (.new 101, 3) := by decide +kernel
theorem dX9_readMetre_15 : decode cX9_readMetre 15 = .ok (.dup, 1) := by decide +kernel
theorem dX9_readMetre_16 : decode cX9_readMetre 16 = .ok (.ldc 126, 2) := by decide +kernel
theorem dX9_readMetre_18 : decode cX9_readMetre 18 = .ok (.invokespecial 105, 3) := by decide +kernel
theorem dX9_readMetre_21 : decode cX9_readMetre 21 = .ok (.athrow, 1) := by decide +kernel
theorem dX9_readMetre_22 : decode cX9_readMetre 22 = .ok (.aload_n 0, 1) := by decide +kernel
theorem dX9_readMetre_23 : decode cX9_readMetre 23 = .ok (.invokevirtual 106, 3) := by decide +kernel
theorem dX9_readMetre_26 : decode cX9_readMetre 26 = .ok (.aload_n 0, 1) := by decide +kernel
theorem dX9_readMetre_27 : decode cX9_readMetre 27 = .ok (.getfield 65, 3) := by decide +kernel
theorem dX9_readMetre_30 : decode cX9_readMetre 30 = .ok (.aload_n 1, 1) := by decide +kernel
theorem dX9_readMetre_31 : decode cX9_readMetre 31 = .ok (.putfield 109, 3) := by decide +kernel
theorem dX9_readMetre_34 : decode cX9_readMetre 34 = .ok (.aload_n 1, 1) := by decide +kernel
theorem dX9_readMetre_35 : decode cX9_readMetre 35 = .ok (.getfield 128, 3) := by decide +kernel
theorem dX9_readMetre_38 : decode cX9_readMetre 38 = .ok (.ireturn, 1) := by decide +kernel
theorem dX9_metre_0 : decode cX9_metre 0 = .ok (.iload_n 1, 1) := by decide +kernel
theorem dX9_metre_1 : decode cX9_metre 1 = .ok (.tableswitch 90 0 4 #[35, 46, 57, 68, 79], 35) := by decide +kernel
theorem dX9_metre_36 : decode cX9_metre 36 = .ok (.aload_n 0, 1) := by decide +kernel
theorem dX9_metre_37 : decode cX9_metre 37 = .ok (.getfield 65, 3) := by decide +kernel
theorem dX9_metre_40 : decode cX9_metre 40 = .ok (.getfield 109, 3) := by decide +kernel
theorem dX9_metre_43 : decode cX9_metre 43 = .ok (.getfield 113, 3) := by decide +kernel
theorem dX9_metre_46 : decode cX9_metre 46 = .ok (.ireturn, 1) := by decide +kernel
theorem dX9_metre_47 : decode cX9_metre 47 = .ok (.aload_n 0, 1) := by decide +kernel
theorem dX9_metre_48 : decode cX9_metre 48 = .ok (.getfield 65, 3) := by decide +kernel
theorem dX9_metre_51 : decode cX9_metre 51 = .ok (.getfield 109, 3) := by decide +kernel
theorem dX9_metre_54 : decode cX9_metre 54 = .ok (.getfield 116, 3) := by decide +kernel
theorem dX9_metre_57 : decode cX9_metre 57 = .ok (.ireturn, 1) := by decide +kernel
theorem dX9_metre_58 : decode cX9_metre 58 = .ok (.aload_n 0, 1) := by decide +kernel
theorem dX9_metre_59 : decode cX9_metre 59 = .ok (.getfield 65, 3) := by decide +kernel
theorem dX9_metre_62 : decode cX9_metre 62 = .ok (.getfield 109, 3) := by decide +kernel
theorem dX9_metre_65 : decode cX9_metre 65 = .ok (.getfield 119, 3) := by decide +kernel
theorem dX9_metre_68 : decode cX9_metre 68 = .ok (.ireturn, 1) := by decide +kernel
theorem dX9_metre_69 : decode cX9_metre 69 = .ok (.aload_n 0, 1) := by decide +kernel
theorem dX9_metre_70 : decode cX9_metre 70 = .ok (.getfield 65, 3) := by decide +kernel
theorem dX9_metre_73 : decode cX9_metre 73 = .ok (.getfield 109, 3) := by decide +kernel
theorem dX9_metre_76 : decode cX9_metre 76 = .ok (.getfield 128, 3) := by decide +kernel
theorem dX9_metre_79 : decode cX9_metre 79 = .ok (.ireturn, 1) := by decide +kernel
theorem dX9_metre_80 : decode cX9_metre 80 = .ok (.aload_n 0, 1) := by decide +kernel
theorem dX9_metre_81 : decode cX9_metre 81 = .ok (.getfield 65, 3) := by decide +kernel
theorem dX9_metre_84 : decode cX9_metre 84 = .ok (.getfield 109, 3) := by decide +kernel
theorem dX9_metre_87 : decode cX9_metre 87 = .ok (.getfield 131, 3) := by decide +kernel
theorem dX9_metre_90 : decode cX9_metre 90 = .ok (.ireturn, 1) := by decide +kernel
theorem dX9_metre_91 : decode cX9_metre 91 = .ok (.new 101, 3) := by decide +kernel
theorem dX9_metre_94 : decode cX9_metre 94 = .ok (.dup, 1) := by decide +kernel
theorem dX9_metre_95 : decode cX9_metre 95 = .ok (.ldc 134, 2) := by decide +kernel
theorem dX9_metre_97 : decode cX9_metre 97 = .ok (.invokespecial 105, 3) := by decide +kernel
theorem dX9_metre_100 : decode cX9_metre 100 = .ok (.athrow, 1) := by decide +kernel
theorem dX9_setTolerance_0 : decode cX9_setTolerance 0 = .ok (.iload_n 1, 1) := by decide +kernel
theorem dX9_setTolerance_1 : decode cX9_setTolerance 1 = .ok (.ifCond .lt 9, 3) := by decide +kernel
theorem dX9_setTolerance_4 : decode cX9_setTolerance 4 = .ok (.iload_n 1, 1) := by decide +kernel
theorem dX9_setTolerance_5 : decode cX9_setTolerance 5 = .ok (.bipush 30, 2) := by decide +kernel
theorem dX9_setTolerance_7 : decode cX9_setTolerance 7 = .ok (.if_icmp .le 13, 3) := by decide +kernel
theorem dX9_setTolerance_10 : decode cX9_setTolerance 10 = .ok (.new 101, 3) := by decide +kernel
theorem dX9_setTolerance_13 : decode cX9_setTolerance 13 = .ok (.dup, 1) := by decide +kernel
theorem dX9_setTolerance_14 : decode cX9_setTolerance 14 = .ok (.ldc 136, 2) := by decide +kernel
theorem dX9_setTolerance_16 : decode cX9_setTolerance 16 = .ok (.invokespecial 105, 3) := by decide +kernel
theorem dX9_setTolerance_19 : decode cX9_setTolerance 19 = .ok (.athrow, 1) := by decide +kernel
theorem dX9_setTolerance_20 : decode cX9_setTolerance 20 = .ok (.aload_n 0, 1) := by decide +kernel
theorem dX9_setTolerance_21 : decode cX9_setTolerance 21 = .ok (.invokevirtual 106, 3) := by decide +kernel
theorem dX9_setTolerance_24 : decode cX9_setTolerance 24 = .ok (.aload_n 0, 1) := by decide +kernel
theorem dX9_setTolerance_25 : decode cX9_setTolerance 25 = .ok (.getfield 65, 3) := by decide +kernel
theorem dX9_setTolerance_28 : decode cX9_setTolerance 28 = .ok (.getfield 138, 3) := by decide +kernel
theorem dX9_setTolerance_31 : decode cX9_setTolerance 31 = .ok (.istore_n 2, 1) := by decide +kernel
theorem dX9_setTolerance_32 : decode cX9_setTolerance 32 = .ok (.aload_n 0, 1) := by decide +kernel
theorem dX9_setTolerance_33 : decode cX9_setTolerance 33 = .ok (.getfield 65, 3) := by decide +kernel
theorem dX9_setTolerance_36 : decode cX9_setTolerance 36 = .ok (.iload_n 1, 1) := by decide +kernel
theorem dX9_setTolerance_37 : decode cX9_setTolerance 37 = .ok (.putfield 138, 3) := by decide +kernel
theorem dX9_setTolerance_40 : decode cX9_setTolerance 40 = .ok (.iload_n 2, 1) := by decide +kernel
theorem dX9_setTolerance_41 : decode cX9_setTolerance 41 = .ok (.ireturn, 1) := by decide +kernel
theorem dX9_readException_0 : decode cX9_readException 0 = .ok (.aload_n 0, 1) := by decide +kernel
theorem dX9_readException_1 : decode cX9_readException 1 = .ok (.getfield 12, 3) := by decide +kernel
theorem dX9_readException_4 : decode cX9_readException 4 = .ok (.invokevirtual 141, 3) := by decide +kernel
theorem dX9_readException_7 : decode cX9_readException 7 = .ok (.astore_n 1, 1) := by decide +kernel
theorem dX9_readException_8 : decode cX9_readException 8 = .ok (.aload_n 1, 1) := by decide +kernel
theorem dX9_readException_9 : decode cX9_readException 9 = .ok (.ifnonnull 13, 3) := by decide +kernel
theorem dX9_readException_12 : decode cX9_readException 12 = .ok (.new 101, 3) := by decide +kernel
theorem dX9_readException_15 : decode cX9_readException 15 = .ok (.dup, 1) := by decide +kernel
theorem dX9_readException_16 : decode cX9_readException 16 = .ok (.ldc 145, 2) := by decide +kernel
theorem dX9_readException_18 : decode cX9_readException 18 = .ok (.invokespecial 105, 3) := by decide +kernel
theorem dX9_readException_21 : decode cX9_readException 21 = .ok (.athrow, 1) := by decide +kernel
theorem dX9_readException_22 : decode cX9_readException 22 = .ok (.aload_n 0, 1) := by decide +kernel
theorem dX9_readException_23 : decode cX9_readException 23 = .ok (.getfield 65, 3) := by decide +kernel
theorem dX9_readException_26 : decode cX9_readException 26 = .ok (.aload_n 1, 1) := by decide +kernel
theorem dX9_readException_27 : decode cX9_readException 27 = .ok (.getfield 147, 3) := by decide +kernel
theorem dX9_readException_30 : decode cX9_readException 30 = .ok (.invokevirtual 153, 3) := by decide +kernel
theorem dX9_readException_33 : decode cX9_readException 33 = .ok (.istore_n 2, 1) := by decide +kernel
theorem dX9_readException_34 : decode cX9_readException 34 = .ok (.iload_n 2, 1) := by decide +kernel
theorem dX9_readException_35 : decode cX9_readException 35 = .ok (.iconst (-1), 1) := by decide +kernel
theorem dX9_readException_36 : decode cX9_readException 36 = .ok (.if_icmp .ne 13, 3) := by decide +kernel
theorem dX9_readException_39 : decode cX9_readException 39 = .ok (.aload_n 0, 1) := by decide +kernel
theorem dX9_readException_40 : decode cX9_readException 40 = .ok (.getfield 65, 3) := by decide +kernel
theorem dX9_readException_43 : decode cX9_readException 43 = .ok (.getfield 157, 3) := by decide +kernel
theorem dX9_readException_46 : decode cX9_readException 46 = .ok (.goto 4, 3) := by decide +kernel
theorem dX9_readException_49 : decode cX9_readException 49 = .ok (.iload_n 2, 1) := by decide +kernel
theorem dX9_readException_50 : decode cX9_readException 50 = .ok (.istore_n 3, 1) := by decide +kernel
theorem dX9_readException_51 : decode cX9_readException 51 = .ok (.iload_n 3, 1) := by decide +kernel
theorem dX9_readException_52 : decode cX9_readException 52 = .ok (.bipush 8, 2) := by decide +kernel
theorem dX9_readException_54 : decode cX9_readException 54 = .ok (.if_icmp .lt 13, 3) := by decide +kernel
theorem dX9_readException_57 : decode cX9_readException 57 = .ok (.new 82, 3) := by decide +kernel
theorem dX9_readException_60 : decode cX9_readException 60 = .ok (.dup, 1) := by decide +kernel
theorem dX9_readException_61 : decode cX9_readException 61 = .ok (.ldc 160, 2) := by decide +kernel
theorem dX9_readException_63 : decode cX9_readException 63 = .ok (.invokespecial 86, 3) := by decide +kernel
theorem dX9_readException_66 : decode cX9_readException 66 = .ok (.athrow, 1) := by decide +kernel
theorem dX9_readException_67 : decode cX9_readException 67 = .ok (.aload_n 0, 1) := by decide +kernel
theorem dX9_readException_68 : decode cX9_readException 68 = .ok (.invokevirtual 106, 3) := by decide +kernel
theorem dX9_readException_71 : decode cX9_readException 71 = .ok (.aload_n 0, 1) := by decide +kernel
theorem dX9_readException_72 : decode cX9_readException 72 = .ok (.getfield 65, 3) := by decide +kernel
theorem dX9_readException_75 : decode cX9_readException 75 = .ok (.iload_n 3, 1) := by decide +kernel
theorem dX9_readException_76 : decode cX9_readException 76 = .ok (.aload_n 1, 1) := by decide +kernel
theorem dX9_readException_77 : decode cX9_readException 77 = .ok (.invokevirtual 162, 3) := by decide +kernel
theorem dX9_readException_80 : decode cX9_readException 80 = .ok (.iload_n 3, 1) := by decide +kernel
theorem dX9_readException_81 : decode cX9_readException 81 = .ok (.ireturn, 1) := by decide +kernel
theorem dX9_dropException_0 : decode cX9_dropException 0 = .ok (.aload_n 0, 1) := by decide +kernel
theorem dX9_dropException_1 : decode cX9_dropException 1 = .ok (.getfield 65, 3) := by decide +kernel
theorem dX9_dropException_4 : decode cX9_dropException 4 = .ok (.iload_n 1, 1) := by decide +kernel
theorem dX9_dropException_5 : decode cX9_dropException 5 = .ok (.invokevirtual 166, 3) := by decide +kernel
theorem dX9_dropException_8 : decode cX9_dropException 8 = .ok (.astore_n 2, 1) := by decide +kernel
theorem dX9_dropException_9 : decode cX9_dropException 9 = .ok (.aload_n 2, 1) := by decide +kernel
theorem dX9_dropException_10 : decode cX9_dropException 10 = .ok (.ifnonnull 13, 3) := by decide +kernel
theorem dX9_dropException_13 : decode cX9_dropException 13 = .ok (.new 170, 3) := by decide +kernel
theorem dX9_dropException_16 : decode cX9_dropException 16 = .ok (.dup, 1) := by decide +kernel
theorem dX9_dropException_17 : decode cX9_dropException 17 = .ok (.ldc 172, 2) := by decide +kernel
theorem dX9_dropException_19 : decode cX9_dropException 19 = .ok (.invokespecial 174, 3) := by decide +kernel
theorem dX9_dropException_22 : decode cX9_dropException 22 = .ok (.athrow, 1) := by decide +kernel
theorem dX9_dropException_23 : decode cX9_dropException 23 = .ok (.aload_n 0, 1) := by decide +kernel
theorem dX9_dropException_24 : decode cX9_dropException 24 = .ok (.invokevirtual 106, 3) := by decide +kernel
theorem dX9_dropException_27 : decode cX9_dropException 27 = .ok (.aload_n 0, 1) := by decide +kernel
theorem dX9_dropException_28 : decode cX9_dropException 28 = .ok (.getfield 65, 3) := by decide +kernel
theorem dX9_dropException_31 : decode cX9_dropException 31 = .ok (.iload_n 1, 1) := by decide +kernel
theorem dX9_dropException_32 : decode cX9_dropException 32 = .ok (.invokevirtual 175, 3) := by decide +kernel
theorem dX9_dropException_35 : decode cX9_dropException 35 = .ok (.aload_n 2, 1) := by decide +kernel
theorem dX9_dropException_36 : decode cX9_dropException 36 = .ok (.getfield 179, 3) := by decide +kernel
theorem dX9_dropException_39 : decode cX9_dropException 39 = .ok (.ireturn, 1) := by decide +kernel
theorem dX9_exceptions_0 : decode cX9_exceptions 0 = .ok (.aload_n 0, 1) := by decide +kernel
theorem dX9_exceptions_1 : decode cX9_exceptions 1 = .ok (.getfield 65, 3) := by decide +kernel
theorem dX9_exceptions_4 : decode cX9_exceptions 4 = .ok (.getfield 157, 3) := by decide +kernel
theorem dX9_exceptions_7 : decode cX9_exceptions 7 = .ok (.ireturn, 1) := by decide +kernel
theorem dX9_addLine_0 : decode cX9_addLine 0 = .ok (.aload_n 0, 1) := by decide +kernel
theorem dX9_addLine_1 : decode cX9_addLine 1 = .ok (.iload_n 1, 1) := by decide +kernel
theorem dX9_addLine_2 : decode cX9_addLine 2 = .ok (.invokevirtual 182, 3) := by decide +kernel
theorem dX9_addLine_5 : decode cX9_addLine 5 = .ok (.astore_n 3, 1) := by decide +kernel
theorem dX9_addLine_6 : decode cX9_addLine 6 = .ok (.iload_n 2, 1) := by decide +kernel
theorem dX9_addLine_7 : decode cX9_addLine 7 = .ok (.ifCond .lt 11, 3) := by decide +kernel
theorem dX9_addLine_10 : decode cX9_addLine 10 = .ok (.iload_n 2, 1) := by decide +kernel
theorem dX9_addLine_11 : decode cX9_addLine 11 = .ok (.aload_n 3, 1) := by decide +kernel
theorem dX9_addLine_12 : decode cX9_addLine 12 = .ok (.getfield 186, 3) := by decide +kernel
theorem dX9_addLine_15 : decode cX9_addLine 15 = .ok (.if_icmp .le 13, 3) := by decide +kernel
theorem dX9_addLine_18 : decode cX9_addLine 18 = .ok (.new 170, 3) := by decide +kernel
theorem dX9_addLine_21 : decode cX9_addLine 21 = .ok (.dup, 1) := by decide +kernel
theorem dX9_addLine_22 : decode cX9_addLine 22 = .ok (.ldc 189, 2) := by decide +kernel
theorem dX9_addLine_24 : decode cX9_addLine 24 = .ok (.invokespecial 174, 3) := by decide +kernel
theorem dX9_addLine_27 : decode cX9_addLine 27 = .ok (.athrow, 1) := by decide +kernel
theorem dX9_addLine_28 : decode cX9_addLine 28 = .ok (.aload_n 0, 1) := by decide +kernel
theorem dX9_addLine_29 : decode cX9_addLine 29 = .ok (.getfield 12, 3) := by decide +kernel
theorem dX9_addLine_32 : decode cX9_addLine 32 = .ok (.invokevirtual 191, 3) := by decide +kernel
theorem dX9_addLine_35 : decode cX9_addLine 35 = .ok (.astore 4, 2) := by decide +kernel
theorem dX9_addLine_37 : decode cX9_addLine 37 = .ok (.aload 4, 2) := by decide +kernel
theorem dX9_addLine_39 : decode cX9_addLine 39 = .ok (.ifnonnull 13, 3) := by decide +kernel
theorem dX9_addLine_42 : decode cX9_addLine 42 = .ok (.new 101, 3) := by decide +kernel
theorem dX9_addLine_45 : decode cX9_addLine 45 = .ok (.dup, 1) := by decide +kernel
theorem dX9_addLine_46 : decode cX9_addLine 46 = .ok (.ldc 195, 2) := by decide +kernel
theorem dX9_addLine_48 : decode cX9_addLine 48 = .ok (.invokespecial 105, 3) := by decide +kernel
theorem dX9_addLine_51 : decode cX9_addLine 51 = .ok (.athrow, 1) := by decide +kernel
theorem dX9_addLine_52 : decode cX9_addLine 52 = .ok (.aload_n 3, 1) := by decide +kernel
theorem dX9_addLine_53 : decode cX9_addLine 53 = .ok (.getfield 186, 3) := by decide +kernel
theorem dX9_addLine_56 : decode cX9_addLine 56 = .ok (.bipush 10, 2) := by decide +kernel
theorem dX9_addLine_58 : decode cX9_addLine 58 = .ok (.if_icmp .lt 13, 3) := by decide +kernel
theorem dX9_addLine_61 : decode cX9_addLine 61 = .ok (.new 82, 3) := by decide +kernel
theorem dX9_addLine_64 : decode cX9_addLine 64 = .ok (.dup, 1) := by decide +kernel
theorem dX9_addLine_65 : decode cX9_addLine 65 = .ok (.ldc 197, 2) := by decide +kernel
theorem dX9_addLine_67 : decode cX9_addLine 67 = .ok (.invokespecial 86, 3) := by decide +kernel
theorem dX9_addLine_70 : decode cX9_addLine 70 = .ok (.athrow, 1) := by decide +kernel
theorem dX9_addLine_71 : decode cX9_addLine 71 = .ok (.aload_n 0, 1) := by decide +kernel
theorem dX9_addLine_72 : decode cX9_addLine 72 = .ok (.invokevirtual 106, 3) := by decide +kernel
theorem dX9_addLine_75 : decode cX9_addLine 75 = .ok (.aload_n 3, 1) := by decide +kernel
theorem dX9_addLine_76 : decode cX9_addLine 76 = .ok (.iload_n 2, 1) := by decide +kernel
theorem dX9_addLine_77 : decode cX9_addLine 77 = .ok (.aload 4, 2) := by decide +kernel
theorem dX9_addLine_79 : decode cX9_addLine 79 = .ok (.invokevirtual 199, 3) := by decide +kernel
theorem dX9_addLine_82 : decode cX9_addLine 82 = .ok (.aload 4, 2) := by decide +kernel
theorem dX9_addLine_84 : decode cX9_addLine 84 = .ok (.getfield 203, 3) := by decide +kernel
theorem dX9_addLine_87 : decode cX9_addLine 87 = .ok (.ireturn, 1) := by decide +kernel
theorem dX9_replaceLine_0 : decode cX9_replaceLine 0 = .ok (.aload_n 0, 1) := by decide +kernel
theorem dX9_replaceLine_1 : decode cX9_replaceLine 1 = .ok (.iload_n 1, 1) := by decide +kernel
theorem dX9_replaceLine_2 : decode cX9_replaceLine 2 = .ok (.invokevirtual 182, 3) := by decide +kernel
theorem dX9_replaceLine_5 : decode cX9_replaceLine 5 = .ok (.astore_n 3, 1) := by decide +kernel
theorem dX9_replaceLine_6 : decode cX9_replaceLine 6 = .ok (.aload_n 0, 1) := by decide +kernel
theorem dX9_replaceLine_7 : decode cX9_replaceLine 7 = .ok (.iload_n 1, 1) := by decide +kernel
theorem dX9_replaceLine_8 : decode cX9_replaceLine 8 = .ok (.iload_n 2, 1) := by decide +kernel
theorem dX9_replaceLine_9 : decode cX9_replaceLine 9 = .ok (.invokevirtual 208, 3) := by decide +kernel
theorem dX9_replaceLine_12 : decode cX9_replaceLine 12 = .ok (.pop, 1) := by decide +kernel
theorem dX9_replaceLine_13 : decode cX9_replaceLine 13 = .ok (.aload_n 0, 1) := by decide +kernel
theorem dX9_replaceLine_14 : decode cX9_replaceLine 14 = .ok (.getfield 12, 3) := by decide +kernel
theorem dX9_replaceLine_17 : decode cX9_replaceLine 17 = .ok (.invokevirtual 191, 3) := by decide +kernel
theorem dX9_replaceLine_20 : decode cX9_replaceLine 20 = .ok (.astore 4, 2) := by decide +kernel
theorem dX9_replaceLine_22 : decode cX9_replaceLine 22 = .ok (.aload 4, 2) := by decide +kernel
theorem dX9_replaceLine_24 : decode cX9_replaceLine 24 = .ok (.ifnonnull 13, 3) := by decide +kernel
theorem dX9_replaceLine_27 : decode cX9_replaceLine 27 = .ok (.new 101, 3) := by decide +kernel
theorem dX9_replaceLine_30 : decode cX9_replaceLine 30 = .ok (.dup, 1) := by decide +kernel
theorem dX9_replaceLine_31 : decode cX9_replaceLine 31 = .ok (.ldc 195, 2) := by decide +kernel
theorem dX9_replaceLine_33 : decode cX9_replaceLine 33 = .ok (.invokespecial 105, 3) := by decide +kernel
theorem dX9_replaceLine_36 : decode cX9_replaceLine 36 = .ok (.athrow, 1) := by decide +kernel
theorem dX9_replaceLine_37 : decode cX9_replaceLine 37 = .ok (.aload_n 0, 1) := by decide +kernel
theorem dX9_replaceLine_38 : decode cX9_replaceLine 38 = .ok (.invokevirtual 106, 3) := by decide +kernel
theorem dX9_replaceLine_41 : decode cX9_replaceLine 41 = .ok (.aload_n 3, 1) := by decide +kernel
theorem dX9_replaceLine_42 : decode cX9_replaceLine 42 = .ok (.iload_n 2, 1) := by decide +kernel
theorem dX9_replaceLine_43 : decode cX9_replaceLine 43 = .ok (.aload 4, 2) := by decide +kernel
theorem dX9_replaceLine_45 : decode cX9_replaceLine 45 = .ok (.invokevirtual 212, 3) := by decide +kernel
theorem dX9_replaceLine_48 : decode cX9_replaceLine 48 = .ok (.aload 4, 2) := by decide +kernel
theorem dX9_replaceLine_50 : decode cX9_replaceLine 50 = .ok (.getfield 203, 3) := by decide +kernel
theorem dX9_replaceLine_53 : decode cX9_replaceLine 53 = .ok (.ireturn, 1) := by decide +kernel
theorem dX9_removeLine_0 : decode cX9_removeLine 0 = .ok (.aload_n 0, 1) := by decide +kernel
theorem dX9_removeLine_1 : decode cX9_removeLine 1 = .ok (.iload_n 1, 1) := by decide +kernel
theorem dX9_removeLine_2 : decode cX9_removeLine 2 = .ok (.invokevirtual 182, 3) := by decide +kernel
theorem dX9_removeLine_5 : decode cX9_removeLine 5 = .ok (.astore_n 3, 1) := by decide +kernel
theorem dX9_removeLine_6 : decode cX9_removeLine 6 = .ok (.aload_n 0, 1) := by decide +kernel
theorem dX9_removeLine_7 : decode cX9_removeLine 7 = .ok (.iload_n 1, 1) := by decide +kernel
theorem dX9_removeLine_8 : decode cX9_removeLine 8 = .ok (.iload_n 2, 1) := by decide +kernel
theorem dX9_removeLine_9 : decode cX9_removeLine 9 = .ok (.invokevirtual 208, 3) := by decide +kernel
theorem dX9_removeLine_12 : decode cX9_removeLine 12 = .ok (.pop, 1) := by decide +kernel
theorem dX9_removeLine_13 : decode cX9_removeLine 13 = .ok (.aload_n 0, 1) := by decide +kernel
theorem dX9_removeLine_14 : decode cX9_removeLine 14 = .ok (.invokevirtual 106, 3) := by decide +kernel
theorem dX9_removeLine_17 : decode cX9_removeLine 17 = .ok (.aload_n 3, 1) := by decide +kernel
theorem dX9_removeLine_18 : decode cX9_removeLine 18 = .ok (.iload_n 2, 1) := by decide +kernel
theorem dX9_removeLine_19 : decode cX9_removeLine 19 = .ok (.invokevirtual 215, 3) := by decide +kernel
theorem dX9_removeLine_22 : decode cX9_removeLine 22 = .ok (.aload_n 3, 1) := by decide +kernel
theorem dX9_removeLine_23 : decode cX9_removeLine 23 = .ok (.getfield 186, 3) := by decide +kernel
theorem dX9_removeLine_26 : decode cX9_removeLine 26 = .ok (.ireturn, 1) := by decide +kernel
theorem dX9_moveLine_0 : decode cX9_moveLine 0 = .ok (.aload_n 0, 1) := by decide +kernel
theorem dX9_moveLine_1 : decode cX9_moveLine 1 = .ok (.iload_n 1, 1) := by decide +kernel
theorem dX9_moveLine_2 : decode cX9_moveLine 2 = .ok (.invokevirtual 182, 3) := by decide +kernel
theorem dX9_moveLine_5 : decode cX9_moveLine 5 = .ok (.astore 4, 2) := by decide +kernel
theorem dX9_moveLine_7 : decode cX9_moveLine 7 = .ok (.aload_n 0, 1) := by decide +kernel
theorem dX9_moveLine_8 : decode cX9_moveLine 8 = .ok (.iload_n 1, 1) := by decide +kernel
theorem dX9_moveLine_9 : decode cX9_moveLine 9 = .ok (.iload_n 2, 1) := by decide +kernel
theorem dX9_moveLine_10 : decode cX9_moveLine 10 = .ok (.invokevirtual 208, 3) := by decide +kernel
theorem dX9_moveLine_13 : decode cX9_moveLine 13 = .ok (.astore 5, 2) := by decide +kernel
theorem dX9_moveLine_15 : decode cX9_moveLine 15 = .ok (.aload_n 0, 1) := by decide +kernel
theorem dX9_moveLine_16 : decode cX9_moveLine 16 = .ok (.iload_n 1, 1) := by decide +kernel
theorem dX9_moveLine_17 : decode cX9_moveLine 17 = .ok (.iload_n 3, 1) := by decide +kernel
theorem dX9_moveLine_18 : decode cX9_moveLine 18 = .ok (.invokevirtual 208, 3) := by decide +kernel
theorem dX9_moveLine_21 : decode cX9_moveLine 21 = .ok (.pop, 1) := by decide +kernel
theorem dX9_moveLine_22 : decode cX9_moveLine 22 = .ok (.aload_n 0, 1) := by decide +kernel
theorem dX9_moveLine_23 : decode cX9_moveLine 23 = .ok (.invokevirtual 106, 3) := by decide +kernel
theorem dX9_moveLine_26 : decode cX9_moveLine 26 = .ok (.aload 4, 2) := by decide +kernel
theorem dX9_moveLine_28 : decode cX9_moveLine 28 = .ok (.iload_n 2, 1) := by decide +kernel
theorem dX9_moveLine_29 : decode cX9_moveLine 29 = .ok (.invokevirtual 215, 3) := by decide +kernel
theorem dX9_moveLine_32 : decode cX9_moveLine 32 = .ok (.aload 4, 2) := by decide +kernel
theorem dX9_moveLine_34 : decode cX9_moveLine 34 = .ok (.iload_n 3, 1) := by decide +kernel
theorem dX9_moveLine_35 : decode cX9_moveLine 35 = .ok (.aload 5, 2) := by decide +kernel
theorem dX9_moveLine_37 : decode cX9_moveLine 37 = .ok (.invokevirtual 199, 3) := by decide +kernel
theorem dX9_moveLine_40 : decode cX9_moveLine 40 = .ok (.iload_n 3, 1) := by decide +kernel
theorem dX9_moveLine_41 : decode cX9_moveLine 41 = .ok (.iload_n 2, 1) := by decide +kernel
theorem dX9_moveLine_42 : decode cX9_moveLine 42 = .ok (.isub, 1) := by decide +kernel
theorem dX9_moveLine_43 : decode cX9_moveLine 43 = .ok (.invokestatic 218, 3) := by decide +kernel
theorem dX9_moveLine_46 : decode cX9_moveLine 46 = .ok (.ireturn, 1) := by decide +kernel
theorem dX9_copyDraft_0 : decode cX9_copyDraft 0 = .ok (.aload_n 0, 1) := by decide +kernel
theorem dX9_copyDraft_1 : decode cX9_copyDraft 1 = .ok (.iload_n 1, 1) := by decide +kernel
theorem dX9_copyDraft_2 : decode cX9_copyDraft 2 = .ok (.invokevirtual 182, 3) := by decide +kernel
theorem dX9_copyDraft_5 : decode cX9_copyDraft 5 = .ok (.astore_n 3, 1) := by decide +kernel
theorem dX9_copyDraft_6 : decode cX9_copyDraft 6 = .ok (.aload_n 0, 1) := by decide +kernel
theorem dX9_copyDraft_7 : decode cX9_copyDraft 7 = .ok (.iload_n 2, 1) := by decide +kernel
theorem dX9_copyDraft_8 : decode cX9_copyDraft 8 = .ok (.invokevirtual 182, 3) := by decide +kernel
theorem dX9_copyDraft_11 : decode cX9_copyDraft 11 = .ok (.astore 4, 2) := by decide +kernel
theorem dX9_copyDraft_13 : decode cX9_copyDraft 13 = .ok (.aload_n 0, 1) := by decide +kernel
theorem dX9_copyDraft_14 : decode cX9_copyDraft 14 = .ok (.invokevirtual 106, 3) := by decide +kernel
theorem dX9_copyDraft_17 : decode cX9_copyDraft 17 = .ok (.aload 4, 2) := by decide +kernel
theorem dX9_copyDraft_19 : decode cX9_copyDraft 19 = .ok (.aload_n 3, 1) := by decide +kernel
theorem dX9_copyDraft_20 : decode cX9_copyDraft 20 = .ok (.invokevirtual 224, 3) := by decide +kernel
theorem dX9_copyDraft_23 : decode cX9_copyDraft 23 = .ok (.aload 4, 2) := by decide +kernel
theorem dX9_copyDraft_25 : decode cX9_copyDraft 25 = .ok (.getfield 186, 3) := by decide +kernel
theorem dX9_copyDraft_28 : decode cX9_copyDraft 28 = .ok (.ireturn, 1) := by decide +kernel
theorem dX9_clearDraft_0 : decode cX9_clearDraft 0 = .ok (.aload_n 0, 1) := by decide +kernel
theorem dX9_clearDraft_1 : decode cX9_clearDraft 1 = .ok (.iload_n 1, 1) := by decide +kernel
theorem dX9_clearDraft_2 : decode cX9_clearDraft 2 = .ok (.invokevirtual 182, 3) := by decide +kernel
theorem dX9_clearDraft_5 : decode cX9_clearDraft 5 = .ok (.astore_n 2, 1) := by decide +kernel
theorem dX9_clearDraft_6 : decode cX9_clearDraft 6 = .ok (.aload_n 0, 1) := by decide +kernel
theorem dX9_clearDraft_7 : decode cX9_clearDraft 7 = .ok (.invokevirtual 106, 3) := by decide +kernel
theorem dX9_clearDraft_10 : decode cX9_clearDraft 10 = .ok (.aload_n 2, 1) := by decide +kernel
theorem dX9_clearDraft_11 : decode cX9_clearDraft 11 = .ok (.getfield 186, 3) := by decide +kernel
theorem dX9_clearDraft_14 : decode cX9_clearDraft 14 = .ok (.istore_n 3, 1) := by decide +kernel
theorem dX9_clearDraft_15 : decode cX9_clearDraft 15 = .ok (.aload_n 2, 1) := by decide +kernel
theorem dX9_clearDraft_16 : decode cX9_clearDraft 16 = .ok (.invokevirtual 228, 3) := by decide +kernel
theorem dX9_clearDraft_19 : decode cX9_clearDraft 19 = .ok (.iload_n 3, 1) := by decide +kernel
theorem dX9_clearDraft_20 : decode cX9_clearDraft 20 = .ok (.ireturn, 1) := by decide +kernel
theorem dX9_character_0 : decode cX9_character 0 = .ok (.aload_n 0, 1) := by decide +kernel
theorem dX9_character_1 : decode cX9_character 1 = .ok (.iload_n 1, 1) := by decide +kernel
theorem dX9_character_2 : decode cX9_character 2 = .ok (.iload_n 2, 1) := by decide +kernel
theorem dX9_character_3 : decode cX9_character 3 = .ok (.invokevirtual 208, 3) := by decide +kernel
theorem dX9_character_6 : decode cX9_character 6 = .ok (.astore 4, 2) := by decide +kernel
theorem dX9_character_8 : decode cX9_character 8 = .ok (.iload_n 3, 1) := by decide +kernel
theorem dX9_character_9 : decode cX9_character 9 = .ok (.ifCond .lt 13, 3) := by decide +kernel
theorem dX9_character_12 : decode cX9_character 12 = .ok (.iload_n 3, 1) := by decide +kernel
theorem dX9_character_13 : decode cX9_character 13 = .ok (.aload 4, 2) := by decide +kernel
theorem dX9_character_15 : decode cX9_character 15 = .ok (.getfield 231, 3) := by decide +kernel
theorem dX9_character_18 : decode cX9_character 18 = .ok (.arraylength, 1) := by decide +kernel
theorem dX9_character_19 : decode cX9_character 19 = .ok (.if_icmp .lt 13, 3) := by decide +kernel
theorem dX9_character_22 : decode cX9_character 22 = .ok (.new 170, 3) := by decide +kernel
theorem dX9_character_25 : decode cX9_character 25 = .ok (.dup, 1) := by decide +kernel
theorem dX9_character_26 : decode cX9_character 26 = .ok (.ldc 235, 2) := by decide +kernel
theorem dX9_character_28 : decode cX9_character 28 = .ok (.invokespecial 174, 3) := by decide +kernel
theorem dX9_character_31 : decode cX9_character 31 = .ok (.athrow, 1) := by decide +kernel
theorem dX9_character_32 : decode cX9_character 32 = .ok (.aload 4, 2) := by decide +kernel
theorem dX9_character_34 : decode cX9_character 34 = .ok (.getfield 231, 3) := by decide +kernel
theorem dX9_character_37 : decode cX9_character 37 = .ok (.iload_n 3, 1) := by decide +kernel
theorem dX9_character_38 : decode cX9_character 38 = .ok (.caload, 1) := by decide +kernel
theorem dX9_character_39 : decode cX9_character 39 = .ok (.ireturn, 1) := by decide +kernel
theorem dX9_line_0 : decode cX9_line 0 = .ok (.aload_n 0, 1) := by decide +kernel
theorem dX9_line_1 : decode cX9_line 1 = .ok (.iload_n 1, 1) := by decide +kernel
theorem dX9_line_2 : decode cX9_line 2 = .ok (.iload_n 2, 1) := by decide +kernel
theorem dX9_line_3 : decode cX9_line 3 = .ok (.invokevirtual 208, 3) := by decide +kernel
theorem dX9_line_6 : decode cX9_line 6 = .ok (.astore 4, 2) := by decide +kernel
theorem dX9_line_8 : decode cX9_line 8 = .ok (.aload_n 0, 1) := by decide +kernel
theorem dX9_line_9 : decode cX9_line 9 = .ok (.getfield 30, 3) := by decide +kernel
theorem dX9_line_12 : decode cX9_line 12 = .ok (.aload 4, 2) := by decide +kernel
theorem dX9_line_14 : decode cX9_line 14 = .ok (.aload_n 0, 1) := by decide +kernel
theorem dX9_line_15 : decode cX9_line 15 = .ok (.getfield 65, 3) := by decide +kernel
theorem dX9_line_18 : decode cX9_line 18 = .ok (.invokevirtual 237, 3) := by decide +kernel
theorem dX9_line_21 : decode cX9_line 21 = .ok (.iload_n 3, 1) := by decide +kernel
theorem dX9_line_22 : decode cX9_line 22 = .ok (.tableswitch 110 0 6 #[42, 48, 56, 64, 72, 81, 88], 42) := by decide +kernel
theorem dX9_line_64 : decode cX9_line 64 = .ok (.aload 4, 2) := by decide +kernel
theorem dX9_line_66 : decode cX9_line 66 = .ok (.getfield 203, 3) := by decide +kernel
theorem dX9_line_69 : decode cX9_line 69 = .ok (.ireturn, 1) := by decide +kernel
theorem dX9_line_70 : decode cX9_line 70 = .ok (.aload_n 0, 1) := by decide +kernel
theorem dX9_line_71 : decode cX9_line 71 = .ok (.getfield 30, 3) := by decide +kernel
theorem dX9_line_74 : decode cX9_line 74 = .ok (.getfield 241, 3) := by decide +kernel
theorem dX9_line_77 : decode cX9_line 77 = .ok (.ireturn, 1) := by decide +kernel
theorem dX9_line_78 : decode cX9_line 78 = .ok (.aload_n 0, 1) := by decide +kernel
theorem dX9_line_79 : decode cX9_line 79 = .ok (.getfield 30, 3) := by decide +kernel
theorem dX9_line_82 : decode cX9_line 82 = .ok (.getfield 244, 3) := by decide +kernel
theorem dX9_line_85 : decode cX9_line 85 = .ok (.ireturn, 1) := by decide +kernel
theorem dX9_line_86 : decode cX9_line 86 = .ok (.aload_n 0, 1) := by decide +kernel
theorem dX9_line_87 : decode cX9_line 87 = .ok (.getfield 30, 3) := by decide +kernel
theorem dX9_line_90 : decode cX9_line 90 = .ok (.getfield 247, 3) := by decide +kernel
theorem dX9_line_93 : decode cX9_line 93 = .ok (.ireturn, 1) := by decide +kernel
theorem dX9_line_94 : decode cX9_line 94 = .ok (.aload 4, 2) := by decide +kernel
theorem dX9_line_96 : decode cX9_line 96 = .ok (.getfield 250, 3) := by decide +kernel
theorem dX9_line_99 : decode cX9_line 99 = .ok (.invokestatic 253, 3) := by decide +kernel
theorem dX9_line_102 : decode cX9_line 102 = .ok (.ireturn, 1) := by decide +kernel
theorem dX9_line_103 : decode cX9_line 103 = .ok (.aload_n 0, 1) := by decide +kernel
theorem dX9_line_104 : decode cX9_line 104 = .ok (.iload_n 1, 1) := by decide +kernel
theorem dX9_line_105 : decode cX9_line 105 = .ok (.iload_n 2, 1) := by decide +kernel
theorem dX9_line_106 : decode cX9_line 106 = .ok (.invokevirtual 258, 3) := by decide +kernel
theorem dX9_line_109 : decode cX9_line 109 = .ok (.ireturn, 1) := by decide +kernel
theorem dX9_line_110 : decode cX9_line 110 = .ok (.aload 4, 2) := by decide +kernel
theorem dX9_line_112 : decode cX9_line 112 = .ok (.getfield 262, 3) := by decide +kernel
theorem dX9_line_115 : decode cX9_line 115 = .ok (.getfield 265, 3) := by decide +kernel
theorem dX9_line_118 : decode cX9_line 118 = .ok (.aload_n 0, 1) := by decide +kernel
theorem dX9_line_119 : decode cX9_line 119 = .ok (.getfield 65, 3) := by decide +kernel
theorem dX9_line_122 : decode cX9_line 122 = .ok (.aload 4, 2) := by decide +kernel
theorem dX9_line_124 : decode cX9_line 124 = .ok (.getfield 262, 3) := by decide +kernel
theorem dX9_line_127 : decode cX9_line 127 = .ok (.invokevirtual 270, 3) := by decide +kernel
theorem dX9_line_130 : decode cX9_line 130 = .ok (.isub, 1) := by decide +kernel
theorem dX9_line_131 : decode cX9_line 131 = .ok (.ireturn, 1) := by decide +kernel
theorem dX9_line_132 : decode cX9_line 132 = .ok (.new 101, 3) := by decide +kernel
theorem dX9_line_135 : decode cX9_line 135 = .ok (.dup, 1) := by decide +kernel
theorem dX9_line_136 : decode cX9_line 136 = .ok (.ldc_w 273, 3) := by decide +kernel
theorem dX9_line_139 : decode cX9_line 139 = .ok (.invokespecial 105, 3) := by decide +kernel
theorem dX9_line_142 : decode cX9_line 142 = .ok (.athrow, 1) := by decide +kernel
theorem dX9_word_0 : decode cX9_word 0 = .ok (.aload_n 0, 1) := by decide +kernel
theorem dX9_word_1 : decode cX9_word 1 = .ok (.iload_n 1, 1) := by decide +kernel
theorem dX9_word_2 : decode cX9_word 2 = .ok (.iload_n 2, 1) := by decide +kernel
theorem dX9_word_3 : decode cX9_word 3 = .ok (.invokevirtual 208, 3) := by decide +kernel
theorem dX9_word_6 : decode cX9_word 6 = .ok (.astore 5, 2) := by decide +kernel
theorem dX9_word_8 : decode cX9_word 8 = .ok (.aload 5, 2) := by decide +kernel
theorem dX9_word_10 : decode cX9_word 10 = .ok (.iload_n 3, 1) := by decide +kernel
theorem dX9_word_11 : decode cX9_word 11 = .ok (.invokevirtual 275, 3) := by decide +kernel
theorem dX9_word_14 : decode cX9_word 14 = .ok (.astore 6, 2) := by decide +kernel
theorem dX9_word_16 : decode cX9_word 16 = .ok (.aload 6, 2) := by decide +kernel
theorem dX9_word_18 : decode cX9_word 18 = .ok (.ifnonnull 14, 3) := by decide +kernel
theorem dX9_word_21 : decode cX9_word 21 = .ok (.new 170, 3) := by decide +kernel
theorem dX9_word_24 : decode cX9_word 24 = .ok (.dup, 1) := by decide +kernel
theorem dX9_word_25 : decode cX9_word 25 = .ok (.ldc_w 279, 3) := by decide +kernel
theorem dX9_word_28 : decode cX9_word 28 = .ok (.invokespecial 174, 3) := by decide +kernel
theorem dX9_word_31 : decode cX9_word 31 = .ok (.athrow, 1) := by decide +kernel
theorem dX9_word_32 : decode cX9_word 32 = .ok (.iload 4, 2) := by decide +kernel
theorem dX9_word_34 : decode cX9_word 34 = .ok (.tableswitch 101 0 5 #[38, 45, 51, 66, 76, 86], 38) := by decide +kernel
theorem dX9_word_72 : decode cX9_word 72 = .ok (.aload 6, 2) := by decide +kernel
theorem dX9_word_74 : decode cX9_word 74 = .ok (.getfield 281, 3) := by decide +kernel
theorem dX9_word_77 : decode cX9_word 77 = .ok (.arraylength, 1) := by decide +kernel
theorem dX9_word_78 : decode cX9_word 78 = .ok (.ireturn, 1) := by decide +kernel
theorem dX9_word_79 : decode cX9_word 79 = .ok (.aload 6, 2) := by decide +kernel
theorem dX9_word_81 : decode cX9_word 81 = .ok (.getfield 284, 3) := by decide +kernel
theorem dX9_word_84 : decode cX9_word 84 = .ok (.ireturn, 1) := by decide +kernel
theorem dX9_word_85 : decode cX9_word 85 = .ok (.aload 6, 2) := by decide +kernel
theorem dX9_word_87 : decode cX9_word 87 = .ok (.aload_n 0, 1) := by decide +kernel
theorem dX9_word_88 : decode cX9_word 88 = .ok (.getfield 65, 3) := by decide +kernel
theorem dX9_word_91 : decode cX9_word 91 = .ok (.aload 6, 2) := by decide +kernel
theorem dX9_word_93 : decode cX9_word 93 = .ok (.invokevirtual 287, 3) := by decide +kernel
theorem dX9_word_96 : decode cX9_word 96 = .ok (.invokestatic 291, 3) := by decide +kernel
theorem dX9_word_99 : decode cX9_word 99 = .ok (.ireturn, 1) := by decide +kernel
theorem dX9_word_100 : decode cX9_word 100 = .ok (.aload 5, 2) := by decide +kernel
theorem dX9_word_102 : decode cX9_word 102 = .ok (.getfield 250, 3) := by decide +kernel
theorem dX9_word_105 : decode cX9_word 105 = .ok (.iload_n 3, 1) := by decide +kernel
theorem dX9_word_106 : decode cX9_word 106 = .ok (.ishr, 1) := by decide +kernel
theorem dX9_word_107 : decode cX9_word 107 = .ok (.iconst 1, 1) := by decide +kernel
theorem dX9_word_108 : decode cX9_word 108 = .ok (.iand, 1) := by decide +kernel
theorem dX9_word_109 : decode cX9_word 109 = .ok (.ireturn, 1) := by decide +kernel
theorem dX9_word_110 : decode cX9_word 110 = .ok (.aload_n 0, 1) := by decide +kernel
theorem dX9_word_111 : decode cX9_word 111 = .ok (.getfield 65, 3) := by decide +kernel
theorem dX9_word_114 : decode cX9_word 114 = .ok (.aload 6, 2) := by decide +kernel
theorem dX9_word_116 : decode cX9_word 116 = .ok (.invokevirtual 153, 3) := by decide +kernel
theorem dX9_word_119 : decode cX9_word 119 = .ok (.ireturn, 1) := by decide +kernel
theorem dX9_word_120 : decode cX9_word 120 = .ok (.aload 6, 2) := by decide +kernel
theorem dX9_word_122 : decode cX9_word 122 = .ok (.aload_n 0, 1) := by decide +kernel
theorem dX9_word_123 : decode cX9_word 123 = .ok (.getfield 65, 3) := by decide +kernel
theorem dX9_word_126 : decode cX9_word 126 = .ok (.aload 6, 2) := by decide +kernel
theorem dX9_word_128 : decode cX9_word 128 = .ok (.invokevirtual 287, 3) := by decide +kernel
theorem dX9_word_131 : decode cX9_word 131 = .ok (.invokestatic 295, 3) := by decide +kernel
theorem dX9_word_134 : decode cX9_word 134 = .ok (.ireturn, 1) := by decide +kernel
theorem dX9_word_135 : decode cX9_word 135 = .ok (.new 101, 3) := by decide +kernel
theorem dX9_word_138 : decode cX9_word 138 = .ok (.dup, 1) := by decide +kernel
theorem dX9_word_139 : decode cX9_word 139 = .ok (.ldc_w 298, 3) := by decide +kernel
theorem dX9_word_142 : decode cX9_word 142 = .ok (.invokespecial 105, 3) := by decide +kernel
theorem dX9_word_145 : decode cX9_word 145 = .ok (.athrow, 1) := by decide +kernel
theorem dX9_rhyme_0 : decode cX9_rhyme 0 = .ok (.aload_n 0, 1) := by decide +kernel
theorem dX9_rhyme_1 : decode cX9_rhyme 1 = .ok (.iload_n 1, 1) := by decide +kernel
theorem dX9_rhyme_2 : decode cX9_rhyme 2 = .ok (.iload_n 2, 1) := by decide +kernel
theorem dX9_rhyme_3 : decode cX9_rhyme 3 = .ok (.invokevirtual 208, 3) := by decide +kernel
theorem dX9_rhyme_6 : decode cX9_rhyme 6 = .ok (.getfield 262, 3) := by decide +kernel
theorem dX9_rhyme_9 : decode cX9_rhyme 9 = .ok (.astore 4, 2) := by decide +kernel
theorem dX9_rhyme_11 : decode cX9_rhyme 11 = .ok (.aload_n 0, 1) := by decide +kernel
theorem dX9_rhyme_12 : decode cX9_rhyme 12 = .ok (.getfield 65, 3) := by decide +kernel
theorem dX9_rhyme_15 : decode cX9_rhyme 15 = .ok (.aload 4, 2) := by decide +kernel
theorem dX9_rhyme_17 : decode cX9_rhyme 17 = .ok (.invokevirtual 270, 3) := by decide +kernel
theorem dX9_rhyme_20 : decode cX9_rhyme 20 = .ok (.istore 5, 2) := by decide +kernel
theorem dX9_rhyme_22 : decode cX9_rhyme 22 = .ok (.iload_n 3, 1) := by decide +kernel
theorem dX9_rhyme_23 : decode cX9_rhyme 23 = .ok (.ifCond .lt 15, 3) := by decide +kernel
theorem dX9_rhyme_26 : decode cX9_rhyme 26 = .ok (.iload_n 3, 1) := by decide +kernel
theorem dX9_rhyme_27 : decode cX9_rhyme 27 = .ok (.aload 4, 2) := by decide +kernel
theorem dX9_rhyme_29 : decode cX9_rhyme 29 = .ok (.getfield 265, 3) := by decide +kernel
theorem dX9_rhyme_32 : decode cX9_rhyme 32 = .ok (.iload 5, 2) := by decide +kernel
theorem dX9_rhyme_34 : decode cX9_rhyme 34 = .ok (.isub, 1) := by decide +kernel
theorem dX9_rhyme_35 : decode cX9_rhyme 35 = .ok (.if_icmp .lt 14, 3) := by decide +kernel
theorem dX9_rhyme_38 : decode cX9_rhyme 38 = .ok (.new 170, 3) := by decide +kernel
theorem dX9_rhyme_41 : decode cX9_rhyme 41 = .ok (.dup, 1) := by decide +kernel
theorem dX9_rhyme_42 : decode cX9_rhyme 42 = .ok (.ldc_w 300, 3) := by decide +kernel
theorem dX9_rhyme_45 : decode cX9_rhyme 45 = .ok (.invokespecial 174, 3) := by decide +kernel
theorem dX9_rhyme_48 : decode cX9_rhyme 48 = .ok (.athrow, 1) := by decide +kernel
theorem dX9_rhyme_49 : decode cX9_rhyme 49 = .ok (.aload 4, 2) := by decide +kernel
theorem dX9_rhyme_51 : decode cX9_rhyme 51 = .ok (.iload 5, 2) := by decide +kernel
theorem dX9_rhyme_53 : decode cX9_rhyme 53 = .ok (.iload_n 3, 1) := by decide +kernel
theorem dX9_rhyme_54 : decode cX9_rhyme 54 = .ok (.iadd, 1) := by decide +kernel
theorem dX9_rhyme_55 : decode cX9_rhyme 55 = .ok (.invokevirtual 302, 3) := by decide +kernel
theorem dX9_rhyme_58 : decode cX9_rhyme 58 = .ok (.ireturn, 1) := by decide +kernel
theorem dX9_rhymes_0 : decode cX9_rhymes 0 = .ok (.aload_n 0, 1) := by decide +kernel
theorem dX9_rhymes_1 : decode cX9_rhymes 1 = .ok (.iload_n 1, 1) := by decide +kernel
theorem dX9_rhymes_2 : decode cX9_rhymes 2 = .ok (.iload_n 2, 1) := by decide +kernel
theorem dX9_rhymes_3 : decode cX9_rhymes 3 = .ok (.invokevirtual 208, 3) := by decide +kernel
theorem dX9_rhymes_6 : decode cX9_rhymes 6 = .ok (.getfield 262, 3) := by decide +kernel
theorem dX9_rhymes_9 : decode cX9_rhymes 9 = .ok (.astore 4, 2) := by decide +kernel
theorem dX9_rhymes_11 : decode cX9_rhymes 11 = .ok (.aload_n 0, 1) := by decide +kernel
theorem dX9_rhymes_12 : decode cX9_rhymes 12 = .ok (.iload_n 1, 1) := by decide +kernel
theorem dX9_rhymes_13 : decode cX9_rhymes 13 = .ok (.iload_n 3, 1) := by decide +kernel
theorem dX9_rhymes_14 : decode cX9_rhymes 14 = .ok (.invokevirtual 208, 3) := by decide +kernel
theorem dX9_rhymes_17 : decode cX9_rhymes 17 = .ok (.getfield 262, 3) := by decide +kernel
theorem dX9_rhymes_20 : decode cX9_rhymes 20 = .ok (.astore 5, 2) := by decide +kernel
theorem dX9_rhymes_22 : decode cX9_rhymes 22 = .ok (.aload 4, 2) := by decide +kernel
theorem dX9_rhymes_24 : decode cX9_rhymes 24 = .ok (.aload_n 0, 1) := by decide +kernel
theorem dX9_rhymes_25 : decode cX9_rhymes 25 = .ok (.getfield 65, 3) := by decide +kernel
theorem dX9_rhymes_28 : decode cX9_rhymes 28 = .ok (.aload 4, 2) := by decide +kernel
theorem dX9_rhymes_30 : decode cX9_rhymes 30 = .ok (.invokevirtual 270, 3) := by decide +kernel
theorem dX9_rhymes_33 : decode cX9_rhymes 33 = .ok (.aload 5, 2) := by decide +kernel
theorem dX9_rhymes_35 : decode cX9_rhymes 35 = .ok (.aload_n 0, 1) := by decide +kernel
theorem dX9_rhymes_36 : decode cX9_rhymes 36 = .ok (.getfield 65, 3) := by decide +kernel
theorem dX9_rhymes_39 : decode cX9_rhymes 39 = .ok (.aload 5, 2) := by decide +kernel
theorem dX9_rhymes_41 : decode cX9_rhymes 41 = .ok (.invokevirtual 270, 3) := by decide +kernel
theorem dX9_rhymes_44 : decode cX9_rhymes 44 = .ok (.invokestatic 306, 3) := by decide +kernel
theorem dX9_rhymes_47 : decode cX9_rhymes 47 = .ok (.ireturn, 1) := by decide +kernel
theorem dX9_cost_0 : decode cX9_cost 0 = .ok (.aload_n 0, 1) := by decide +kernel
theorem dX9_cost_1 : decode cX9_cost 1 = .ok (.getfield 30, 3) := by decide +kernel
theorem dX9_cost_4 : decode cX9_cost 4 = .ok (.aload_n 0, 1) := by decide +kernel
theorem dX9_cost_5 : decode cX9_cost 5 = .ok (.iload_n 1, 1) := by decide +kernel
theorem dX9_cost_6 : decode cX9_cost 6 = .ok (.iload_n 2, 1) := by decide +kernel
theorem dX9_cost_7 : decode cX9_cost 7 = .ok (.invokevirtual 208, 3) := by decide +kernel
theorem dX9_cost_10 : decode cX9_cost 10 = .ok (.aload_n 0, 1) := by decide +kernel
theorem dX9_cost_11 : decode cX9_cost 11 = .ok (.getfield 65, 3) := by decide +kernel
theorem dX9_cost_14 : decode cX9_cost 14 = .ok (.invokevirtual 237, 3) := by decide +kernel
theorem dX9_cost_17 : decode cX9_cost 17 = .ok (.aload_n 0, 1) := by decide +kernel
theorem dX9_cost_18 : decode cX9_cost 18 = .ok (.getfield 30, 3) := by decide +kernel
theorem dX9_cost_21 : decode cX9_cost 21 = .ok (.iload_n 3, 1) := by decide +kernel
theorem dX9_cost_22 : decode cX9_cost 22 = .ok (.invokevirtual 310, 3) := by decide +kernel
theorem dX9_cost_25 : decode cX9_cost 25 = .ok (.ifCond .ne 14, 3) := by decide +kernel
theorem dX9_cost_28 : decode cX9_cost 28 = .ok (.new 101, 3) := by decide +kernel
theorem dX9_cost_31 : decode cX9_cost 31 = .ok (.dup, 1) := by decide +kernel
theorem dX9_cost_32 : decode cX9_cost 32 = .ok (.ldc_w 314, 3) := by decide +kernel
theorem dX9_cost_35 : decode cX9_cost 35 = .ok (.invokespecial 105, 3) := by decide +kernel
theorem dX9_cost_38 : decode cX9_cost 38 = .ok (.athrow, 1) := by decide +kernel
theorem dX9_cost_39 : decode cX9_cost 39 = .ok (.aload_n 0, 1) := by decide +kernel
theorem dX9_cost_40 : decode cX9_cost 40 = .ok (.getfield 39, 3) := by decide +kernel
theorem dX9_cost_43 : decode cX9_cost 43 = .ok (.aload_n 0, 1) := by decide +kernel
theorem dX9_cost_44 : decode cX9_cost 44 = .ok (.getfield 65, 3) := by decide +kernel
theorem dX9_cost_47 : decode cX9_cost 47 = .ok (.getfield 109, 3) := by decide +kernel
theorem dX9_cost_50 : decode cX9_cost 50 = .ok (.iload_n 3, 1) := by decide +kernel
theorem dX9_cost_51 : decode cX9_cost 51 = .ok (.iload 4, 2) := by decide +kernel
theorem dX9_cost_53 : decode cX9_cost 53 = .ok (.invokevirtual 316, 3) := by decide +kernel
theorem dX9_cost_56 : decode cX9_cost 56 = .ok (.istore 5, 2) := by decide +kernel
theorem dX9_cost_58 : decode cX9_cost 58 = .ok (.iload 5, 2) := by decide +kernel
theorem dX9_cost_60 : decode cX9_cost 60 = .ok (.iconst (-1), 1) := by decide +kernel
theorem dX9_cost_61 : decode cX9_cost 61 = .ok (.if_icmp .ne 14, 3) := by decide +kernel
theorem dX9_cost_64 : decode cX9_cost 64 = .ok (.new 96, 3) := by decide +kernel
theorem dX9_cost_67 : decode cX9_cost 67 = .ok (.dup, 1) := by decide +kernel
theorem dX9_cost_68 : decode cX9_cost 68 = .ok (.ldc_w 320, 3) := by decide +kernel
theorem dX9_cost_71 : decode cX9_cost 71 = .ok (.invokespecial 100, 3) := by decide +kernel
theorem dX9_cost_74 : decode cX9_cost 74 = .ok (.athrow, 1) := by decide +kernel
theorem dX9_cost_75 : decode cX9_cost 75 = .ok (.iload 5, 2) := by decide +kernel
theorem dX9_cost_77 : decode cX9_cost 77 = .ok (.ireturn, 1) := by decide +kernel
theorem dX9_scan_0 : decode cX9_scan 0 = .ok (.aload_n 0, 1) := by decide +kernel
theorem dX9_scan_1 : decode cX9_scan 1 = .ok (.iload_n 1, 1) := by decide +kernel
theorem dX9_scan_2 : decode cX9_scan 2 = .ok (.iload_n 2, 1) := by decide +kernel
theorem dX9_scan_3 : decode cX9_scan 3 = .ok (.invokevirtual 208, 3) := by decide +kernel
theorem dX9_scan_6 : decode cX9_scan 6 = .ok (.astore 4, 2) := by decide +kernel
theorem dX9_scan_8 : decode cX9_scan 8 = .ok (.iload_n 3, 1) := by decide +kernel
theorem dX9_scan_9 : decode cX9_scan 9 = .ok (.ifCond .lt 8, 3) := by decide +kernel
theorem dX9_scan_12 : decode cX9_scan 12 = .ok (.iload_n 3, 1) := by decide +kernel
theorem dX9_scan_13 : decode cX9_scan 13 = .ok (.iconst 5, 1) := by decide +kernel
theorem dX9_scan_14 : decode cX9_scan 14 = .ok (.if_icmp .le 14, 3) := by decide +kernel
theorem dX9_scan_17 : decode cX9_scan 17 = .ok (.new 101, 3) := by decide +kernel
theorem dX9_scan_20 : decode cX9_scan 20 = .ok (.dup, 1) := by decide +kernel
theorem dX9_scan_21 : decode cX9_scan 21 = .ok (.ldc_w 322, 3) := by decide +kernel
theorem dX9_scan_24 : decode cX9_scan 24 = .ok (.invokespecial 105, 3) := by decide +kernel
theorem dX9_scan_27 : decode cX9_scan 27 = .ok (.athrow, 1) := by decide +kernel
theorem dX9_scan_28 : decode cX9_scan 28 = .ok (.aload_n 0, 1) := by decide +kernel
theorem dX9_scan_29 : decode cX9_scan 29 = .ok (.aload 4, 2) := by decide +kernel
theorem dX9_scan_31 : decode cX9_scan 31 = .ok (.invokevirtual 324, 3) := by decide +kernel
theorem dX9_scan_34 : decode cX9_scan 34 = .ok (.istore 5, 2) := by decide +kernel
theorem dX9_scan_36 : decode cX9_scan 36 = .ok (.iload 5, 2) := by decide +kernel
theorem dX9_scan_38 : decode cX9_scan 38 = .ok (.ldc_w 328, 3) := by decide +kernel
theorem dX9_scan_41 : decode cX9_scan 41 = .ok (.if_icmp .ne 14, 3) := by decide +kernel
theorem dX9_scan_44 : decode cX9_scan 44 = .ok (.new 96, 3) := by decide +kernel
theorem dX9_scan_47 : decode cX9_scan 47 = .ok (.dup, 1) := by decide +kernel
theorem dX9_scan_48 : decode cX9_scan 48 = .ok (.ldc_w 329, 3) := by decide +kernel
theorem dX9_scan_51 : decode cX9_scan 51 = .ok (.invokespecial 100, 3) := by decide +kernel
theorem dX9_scan_54 : decode cX9_scan 54 = .ok (.athrow, 1) := by decide +kernel
theorem dX9_scan_55 : decode cX9_scan 55 = .ok (.aload_n 0, 1) := by decide +kernel
theorem dX9_scan_56 : decode cX9_scan 56 = .ok (.iload 5, 2) := by decide +kernel
theorem dX9_scan_58 : decode cX9_scan 58 = .ok (.iload_n 3, 1) := by decide +kernel
theorem dX9_scan_59 : decode cX9_scan 59 = .ok (.invokevirtual 331, 3) := by decide +kernel
theorem dX9_scan_62 : decode cX9_scan 62 = .ok (.ireturn, 1) := by decide +kernel
theorem dX9_scans_0 : decode cX9_scans 0 = .ok (.aload_n 0, 1) := by decide +kernel
theorem dX9_scans_1 : decode cX9_scans 1 = .ok (.aload_n 0, 1) := by decide +kernel
theorem dX9_scans_2 : decode cX9_scans 2 = .ok (.iload_n 1, 1) := by decide +kernel
theorem dX9_scans_3 : decode cX9_scans 3 = .ok (.iload_n 2, 1) := by decide +kernel
theorem dX9_scans_4 : decode cX9_scans 4 = .ok (.invokevirtual 208, 3) := by decide +kernel
theorem dX9_scans_7 : decode cX9_scans 7 = .ok (.invokevirtual 324, 3) := by decide +kernel
theorem dX9_scans_10 : decode cX9_scans 10 = .ok (.pop, 1) := by decide +kernel
theorem dX9_scans_11 : decode cX9_scans 11 = .ok (.aload_n 0, 1) := by decide +kernel
theorem dX9_scans_12 : decode cX9_scans 12 = .ok (.getfield 39, 3) := by decide +kernel
theorem dX9_scans_15 : decode cX9_scans 15 = .ok (.getfield 334, 3) := by decide +kernel
theorem dX9_scans_18 : decode cX9_scans 18 = .ok (.ireturn, 1) := by decide +kernel
theorem dX9_reason_0 : decode cX9_reason 0 = .ok (.aload_n 0, 1) := by decide +kernel
theorem dX9_reason_1 : decode cX9_reason 1 = .ok (.aload_n 0, 1) := by decide +kernel
theorem dX9_reason_2 : decode cX9_reason 2 = .ok (.iload_n 1, 1) := by decide +kernel
theorem dX9_reason_3 : decode cX9_reason 3 = .ok (.iload_n 2, 1) := by decide +kernel
theorem dX9_reason_4 : decode cX9_reason 4 = .ok (.invokevirtual 208, 3) := by decide +kernel
theorem dX9_reason_7 : decode cX9_reason 7 = .ok (.invokevirtual 324, 3) := by decide +kernel
theorem dX9_reason_10 : decode cX9_reason 10 = .ok (.istore_n 3, 1) := by decide +kernel
theorem dX9_reason_11 : decode cX9_reason 11 = .ok (.iload_n 3, 1) := by decide +kernel
theorem dX9_reason_12 : decode cX9_reason 12 = .ok (.ldc_w 328, 3) := by decide +kernel
theorem dX9_reason_15 : decode cX9_reason 15 = .ok (.if_icmp .eq 17, 3) := by decide +kernel
theorem dX9_reason_18 : decode cX9_reason 18 = .ok (.aload_n 0, 1) := by decide +kernel
theorem dX9_reason_19 : decode cX9_reason 19 = .ok (.iload_n 3, 1) := by decide +kernel
theorem dX9_reason_20 : decode cX9_reason 20 = .ok (.invokevirtual 337, 3) := by decide +kernel
theorem dX9_reason_23 : decode cX9_reason 23 = .ok (.ifCond .eq 7, 3) := by decide +kernel
theorem dX9_reason_26 : decode cX9_reason 26 = .ok (.iconst 0, 1) := by decide +kernel
theorem dX9_reason_27 : decode cX9_reason 27 = .ok (.goto 4, 3) := by decide +kernel
theorem dX9_reason_30 : decode cX9_reason 30 = .ok (.iconst 4, 1) := by decide +kernel
theorem dX9_reason_31 : decode cX9_reason 31 = .ok (.ireturn, 1) := by decide +kernel
theorem dX9_reason_32 : decode cX9_reason 32 = .ok (.aload_n 0, 1) := by decide +kernel
theorem dX9_reason_33 : decode cX9_reason 33 = .ok (.getfield 30, 3) := by decide +kernel
theorem dX9_reason_36 : decode cX9_reason 36 = .ok (.aload_n 0, 1) := by decide +kernel
theorem dX9_reason_37 : decode cX9_reason 37 = .ok (.getfield 65, 3) := by decide +kernel
theorem dX9_reason_40 : decode cX9_reason 40 = .ok (.getfield 109, 3) := by decide +kernel
theorem dX9_reason_43 : decode cX9_reason 43 = .ok (.invokevirtual 340, 3) := by decide +kernel
theorem dX9_reason_46 : decode cX9_reason 46 = .ok (.ifCond .eq 5, 3) := by decide +kernel
theorem dX9_reason_49 : decode cX9_reason 49 = .ok (.iconst 1, 1) := by decide +kernel
theorem dX9_reason_50 : decode cX9_reason 50 = .ok (.ireturn, 1) := by decide +kernel
theorem dX9_reason_51 : decode cX9_reason 51 = .ok (.aload_n 0, 1) := by decide +kernel
theorem dX9_reason_52 : decode cX9_reason 52 = .ok (.getfield 30, 3) := by decide +kernel
theorem dX9_reason_55 : decode cX9_reason 55 = .ok (.aload_n 0, 1) := by decide +kernel
theorem dX9_reason_56 : decode cX9_reason 56 = .ok (.getfield 65, 3) := by decide +kernel
theorem dX9_reason_59 : decode cX9_reason 59 = .ok (.getfield 109, 3) := by decide +kernel
theorem dX9_reason_62 : decode cX9_reason 62 = .ok (.invokevirtual 344, 3) := by decide +kernel
theorem dX9_reason_65 : decode cX9_reason 65 = .ok (.ifCond .eq 7, 3) := by decide +kernel
theorem dX9_reason_68 : decode cX9_reason 68 = .ok (.iconst 2, 1) := by decide +kernel
theorem dX9_reason_69 : decode cX9_reason 69 = .ok (.goto 4, 3) := by decide +kernel
theorem dX9_reason_72 : decode cX9_reason 72 = .ok (.iconst 3, 1) := by decide +kernel
theorem dX9_reason_73 : decode cX9_reason 73 = .ok (.ireturn, 1) := by decide +kernel
theorem dX9_difference_0 : decode cX9_difference 0 = .ok (.aload_n 0, 1) := by decide +kernel
theorem dX9_difference_1 : decode cX9_difference 1 = .ok (.aload_n 0, 1) := by decide +kernel
theorem dX9_difference_2 : decode cX9_difference 2 = .ok (.iload_n 1, 1) := by decide +kernel
theorem dX9_difference_3 : decode cX9_difference 3 = .ok (.invokevirtual 182, 3) := by decide +kernel
theorem dX9_difference_6 : decode cX9_difference 6 = .ok (.aload_n 0, 1) := by decide +kernel
theorem dX9_difference_7 : decode cX9_difference 7 = .ok (.iload_n 2, 1) := by decide +kernel
theorem dX9_difference_8 : decode cX9_difference 8 = .ok (.invokevirtual 182, 3) := by decide +kernel
theorem dX9_difference_11 : decode cX9_difference 11 = .ok (.invokevirtual 347, 3) := by decide +kernel
theorem dX9_difference_14 : decode cX9_difference 14 = .ok (.ireturn, 1) := by decide +kernel
theorem dX9_suits_0 : decode cX9_suits 0 = .ok (.aload_n 0, 1) := by decide +kernel
theorem dX9_suits_1 : decode cX9_suits 1 = .ok (.aload_n 0, 1) := by decide +kernel
theorem dX9_suits_2 : decode cX9_suits 2 = .ok (.iload_n 1, 1) := by decide +kernel
theorem dX9_suits_3 : decode cX9_suits 3 = .ok (.invokevirtual 182, 3) := by decide +kernel
theorem dX9_suits_6 : decode cX9_suits 6 = .ok (.invokevirtual 351, 3) := by decide +kernel
theorem dX9_suits_9 : decode cX9_suits 9 = .ok (.aload_n 0, 1) := by decide +kernel
theorem dX9_suits_10 : decode cX9_suits 10 = .ok (.invokevirtual 354, 3) := by decide +kernel
theorem dX9_suits_13 : decode cX9_suits 13 = .ok (.istore_n 2, 1) := by decide +kernel
theorem dX9_suits_14 : decode cX9_suits 14 = .ok (.iload_n 2, 1) := by decide +kernel
theorem dX9_suits_15 : decode cX9_suits 15 = .ok (.iconst (-1), 1) := by decide +kernel
theorem dX9_suits_16 : decode cX9_suits 16 = .ok (.if_icmp .ne 14, 3) := by decide +kernel
theorem dX9_suits_19 : decode cX9_suits 19 = .ok (.new 96, 3) := by decide +kernel
theorem dX9_suits_22 : decode cX9_suits 22 = .ok (.dup, 1) := by decide +kernel
theorem dX9_suits_23 : decode cX9_suits 23 = .ok (.ldc_w 358, 3) := by decide +kernel
theorem dX9_suits_26 : decode cX9_suits 26 = .ok (.invokespecial 100, 3) := by decide +kernel
theorem dX9_suits_29 : decode cX9_suits 29 = .ok (.athrow, 1) := by decide +kernel
theorem dX9_suits_30 : decode cX9_suits 30 = .ok (.bipush 10, 2) := by decide +kernel
theorem dX9_suits_32 : decode cX9_suits 32 = .ok (.aload_n 0, 1) := by decide +kernel
theorem dX9_suits_33 : decode cX9_suits 33 = .ok (.getfield 45, 3) := by decide +kernel
theorem dX9_suits_36 : decode cX9_suits 36 = .ok (.iload_n 2, 1) := by decide +kernel
theorem dX9_suits_37 : decode cX9_suits 37 = .ok (.aaload, 1) := by decide +kernel
theorem dX9_suits_38 : decode cX9_suits 38 = .ok (.getfield 113, 3) := by decide +kernel
theorem dX9_suits_41 : decode cX9_suits 41 = .ok (.imul, 1) := by decide +kernel
theorem dX9_suits_42 : decode cX9_suits 42 = .ok (.aload_n 0, 1) := by decide +kernel
theorem dX9_suits_43 : decode cX9_suits 43 = .ok (.getfield 45, 3) := by decide +kernel
theorem dX9_suits_46 : decode cX9_suits 46 = .ok (.iload_n 2, 1) := by decide +kernel
theorem dX9_suits_47 : decode cX9_suits 47 = .ok (.aaload, 1) := by decide +kernel
theorem dX9_suits_48 : decode cX9_suits 48 = .ok (.getfield 116, 3) := by decide +kernel
theorem dX9_suits_51 : decode cX9_suits 51 = .ok (.iadd, 1) := by decide +kernel
theorem dX9_suits_52 : decode cX9_suits 52 = .ok (.ireturn, 1) := by decide +kernel
theorem dX9_account_0 : decode cX9_account 0 = .ok (.aload_n 0, 1) := by decide +kernel
theorem dX9_account_1 : decode cX9_account 1 = .ok (.iload_n 1, 1) := by decide +kernel
theorem dX9_account_2 : decode cX9_account 2 = .ok (.invokevirtual 182, 3) := by decide +kernel
theorem dX9_account_5 : decode cX9_account 5 = .ok (.astore_n 3, 1) := by decide +kernel
theorem dX9_account_6 : decode cX9_account 6 = .ok (.iload_n 2, 1) := by decide +kernel
theorem dX9_account_7 : decode cX9_account 7 = .ok (.ifCond .lt 9, 3) := by decide +kernel
theorem dX9_account_10 : decode cX9_account 10 = .ok (.iload_n 2, 1) := by decide +kernel
theorem dX9_account_11 : decode cX9_account 11 = .ok (.bipush 7, 2) := by decide +kernel
theorem dX9_account_13 : decode cX9_account 13 = .ok (.if_icmp .le 14, 3) := by decide +kernel
theorem dX9_account_16 : decode cX9_account 16 = .ok (.new 101, 3) := by decide +kernel
theorem dX9_account_19 : decode cX9_account 19 = .ok (.dup, 1) := by decide +kernel
theorem dX9_account_20 : decode cX9_account 20 = .ok (.ldc_w 360, 3) := by decide +kernel
theorem dX9_account_23 : decode cX9_account 23 = .ok (.invokespecial 105, 3) := by decide +kernel
theorem dX9_account_26 : decode cX9_account 26 = .ok (.athrow, 1) := by decide +kernel
theorem dX9_account_27 : decode cX9_account 27 = .ok (.iload_n 2, 1) := by decide +kernel
theorem dX9_account_28 : decode cX9_account 28 = .ok (.ifCond .ne 8, 3) := by decide +kernel
theorem dX9_account_31 : decode cX9_account 31 = .ok (.aload_n 3, 1) := by decide +kernel
theorem dX9_account_32 : decode cX9_account 32 = .ok (.getfield 186, 3) := by decide +kernel
theorem dX9_account_35 : decode cX9_account 35 = .ok (.ireturn, 1) := by decide +kernel
theorem dX9_account_36 : decode cX9_account 36 = .ok (.iload_n 2, 1) := by decide +kernel
theorem dX9_account_37 : decode cX9_account 37 = .ok (.iconst 4, 1) := by decide +kernel
theorem dX9_account_38 : decode cX9_account 38 = .ok (.if_icmp .ne 11, 3) := by decide +kernel
theorem dX9_account_41 : decode cX9_account 41 = .ok (.aload_n 0, 1) := by decide +kernel
theorem dX9_account_42 : decode cX9_account 42 = .ok (.aload_n 3, 1) := by decide +kernel
theorem dX9_account_43 : decode cX9_account 43 = .ok (.invokevirtual 362, 3) := by decide +kernel
theorem dX9_account_46 : decode cX9_account 46 = .ok (.goto 9, 3) := by decide +kernel
theorem dX9_account_49 : decode cX9_account 49 = .ok (.aload_n 0, 1) := by decide +kernel
theorem dX9_account_50 : decode cX9_account 50 = .ok (.aload_n 3, 1) := by decide +kernel
theorem dX9_account_51 : decode cX9_account 51 = .ok (.iload_n 2, 1) := by decide +kernel
theorem dX9_account_52 : decode cX9_account 52 = .ok (.invokevirtual 366, 3) := by decide +kernel
theorem dX9_account_55 : decode cX9_account 55 = .ok (.ireturn, 1) := by decide +kernel
theorem dX9_meanCost_0 : decode cX9_meanCost 0 = .ok (.aload_n 0, 1) := by decide +kernel
theorem dX9_meanCost_1 : decode cX9_meanCost 1 = .ok (.iload_n 1, 1) := by decide +kernel
theorem dX9_meanCost_2 : decode cX9_meanCost 2 = .ok (.invokevirtual 182, 3) := by decide +kernel
theorem dX9_meanCost_5 : decode cX9_meanCost 5 = .ok (.astore_n 2, 1) := by decide +kernel
theorem dX9_meanCost_6 : decode cX9_meanCost 6 = .ok (.aload_n 2, 1) := by decide +kernel
theorem dX9_meanCost_7 : decode cX9_meanCost 7 = .ok (.getfield 186, 3) := by decide +kernel
theorem dX9_meanCost_10 : decode cX9_meanCost 10 = .ok (.aload_n 0, 1) := by decide +kernel
theorem dX9_meanCost_11 : decode cX9_meanCost 11 = .ok (.aload_n 2, 1) := by decide +kernel
theorem dX9_meanCost_12 : decode cX9_meanCost 12 = .ok (.iconst 3, 1) := by decide +kernel
theorem dX9_meanCost_13 : decode cX9_meanCost 13 = .ok (.invokevirtual 366, 3) := by decide +kernel
theorem dX9_meanCost_16 : decode cX9_meanCost 16 = .ok (.isub, 1) := by decide +kernel
theorem dX9_meanCost_17 : decode cX9_meanCost 17 = .ok (.istore_n 3, 1) := by decide +kernel
theorem dX9_meanCost_18 : decode cX9_meanCost 18 = .ok (.iload_n 3, 1) := by decide +kernel
theorem dX9_meanCost_19 : decode cX9_meanCost 19 = .ok (.ifCond .ne 14, 3) := by decide +kernel
theorem dX9_meanCost_22 : decode cX9_meanCost 22 = .ok (.new 370, 3) := by decide +kernel
theorem dX9_meanCost_25 : decode cX9_meanCost 25 = .ok (.dup, 1) := by decide +kernel
theorem dX9_meanCost_26 : decode cX9_meanCost 26 = .ok (.ldc_w 372, 3) := by decide +kernel
theorem dX9_meanCost_29 : decode cX9_meanCost 29 = .ok (.invokespecial 374, 3) := by decide +kernel
theorem dX9_meanCost_32 : decode cX9_meanCost 32 = .ok (.athrow, 1) := by decide +kernel
theorem dX9_meanCost_33 : decode cX9_meanCost 33 = .ok (.aload_n 0, 1) := by decide +kernel
theorem dX9_meanCost_34 : decode cX9_meanCost 34 = .ok (.aload_n 2, 1) := by decide +kernel
theorem dX9_meanCost_35 : decode cX9_meanCost 35 = .ok (.iconst 2, 1) := by decide +kernel
theorem dX9_meanCost_36 : decode cX9_meanCost 36 = .ok (.invokevirtual 366, 3) := by decide +kernel
theorem dX9_meanCost_39 : decode cX9_meanCost 39 = .ok (.i2f, 1) := by decide +kernel
theorem dX9_meanCost_40 : decode cX9_meanCost 40 = .ok (.iload_n 3, 1) := by decide +kernel
theorem dX9_meanCost_41 : decode cX9_meanCost 41 = .ok (.i2f, 1) := by decide +kernel
theorem dX9_meanCost_42 : decode cX9_meanCost 42 = .ok (.fdiv, 1) := by decide +kernel
theorem dX9_meanCost_43 : decode cX9_meanCost 43 = .ok (.freturn, 1) := by decide +kernel
theorem dX9_undo_0 : decode cX9_undo 0 = .ok (.aload_n 0, 1) := by decide +kernel
theorem dX9_undo_1 : decode cX9_undo 1 = .ok (.getfield 68, 3) := by decide +kernel
theorem dX9_undo_4 : decode cX9_undo 4 = .ok (.ifCond .le 15, 3) := by decide +kernel
theorem dX9_undo_7 : decode cX9_undo 7 = .ok (.aload_n 0, 1) := by decide +kernel
theorem dX9_undo_8 : decode cX9_undo 8 = .ok (.getfield 68, 3) := by decide +kernel
theorem dX9_undo_11 : decode cX9_undo 11 = .ok (.aload_n 0, 1) := by decide +kernel
theorem dX9_undo_12 : decode cX9_undo 12 = .ok (.getfield 18, 3) := by decide +kernel
theorem dX9_undo_15 : decode cX9_undo 15 = .ok (.arraylength, 1) := by decide +kernel
theorem dX9_undo_16 : decode cX9_undo 16 = .ok (.if_icmp .le 14, 3) := by decide +kernel
theorem dX9_undo_19 : decode cX9_undo 19 = .ok (.new 82, 3) := by decide +kernel
theorem dX9_undo_22 : decode cX9_undo 22 = .ok (.dup, 1) := by decide +kernel
theorem dX9_undo_23 : decode cX9_undo 23 = .ok (.ldc_w 375, 3) := by decide +kernel
theorem dX9_undo_26 : decode cX9_undo 26 = .ok (.invokespecial 86, 3) := by decide +kernel
theorem dX9_undo_29 : decode cX9_undo 29 = .ok (.athrow, 1) := by decide +kernel
theorem dX9_undo_30 : decode cX9_undo 30 = .ok (.aload_n 0, 1) := by decide +kernel
theorem dX9_undo_31 : decode cX9_undo 31 = .ok (.dup, 1) := by decide +kernel
theorem dX9_undo_32 : decode cX9_undo 32 = .ok (.getfield 68, 3) := by decide +kernel
theorem dX9_undo_35 : decode cX9_undo 35 = .ok (.iconst 1, 1) := by decide +kernel
theorem dX9_undo_36 : decode cX9_undo 36 = .ok (.isub, 1) := by decide +kernel
theorem dX9_undo_37 : decode cX9_undo 37 = .ok (.putfield 68, 3) := by decide +kernel
theorem dX9_undo_40 : decode cX9_undo 40 = .ok (.aload_n 0, 1) := by decide +kernel
theorem dX9_undo_41 : decode cX9_undo 41 = .ok (.getfield 65, 3) := by decide +kernel
theorem dX9_undo_44 : decode cX9_undo 44 = .ok (.astore_n 1, 1) := by decide +kernel
theorem dX9_undo_45 : decode cX9_undo 45 = .ok (.aload_n 0, 1) := by decide +kernel
theorem dX9_undo_46 : decode cX9_undo 46 = .ok (.aload_n 0, 1) := by decide +kernel
theorem dX9_undo_47 : decode cX9_undo 47 = .ok (.getfield 18, 3) := by decide +kernel
theorem dX9_undo_50 : decode cX9_undo 50 = .ok (.aload_n 0, 1) := by decide +kernel
theorem dX9_undo_51 : decode cX9_undo 51 = .ok (.getfield 68, 3) := by decide +kernel
theorem dX9_undo_54 : decode cX9_undo 54 = .ok (.aaload, 1) := by decide +kernel
theorem dX9_undo_55 : decode cX9_undo 55 = .ok (.putfield 65, 3) := by decide +kernel
theorem dX9_undo_58 : decode cX9_undo 58 = .ok (.aload_n 0, 1) := by decide +kernel
theorem dX9_undo_59 : decode cX9_undo 59 = .ok (.getfield 18, 3) := by decide +kernel
theorem dX9_undo_62 : decode cX9_undo 62 = .ok (.aload_n 0, 1) := by decide +kernel
theorem dX9_undo_63 : decode cX9_undo 63 = .ok (.getfield 68, 3) := by decide +kernel
theorem dX9_undo_66 : decode cX9_undo 66 = .ok (.aload_n 1, 1) := by decide +kernel
theorem dX9_undo_67 : decode cX9_undo 67 = .ok (.aastore, 1) := by decide +kernel
theorem dX9_undo_68 : decode cX9_undo 68 = .ok (.aload_n 0, 1) := by decide +kernel
theorem dX9_undo_69 : decode cX9_undo 69 = .ok (.getfield 68, 3) := by decide +kernel
theorem dX9_undo_72 : decode cX9_undo 72 = .ok (.ireturn, 1) := by decide +kernel
theorem dX9_save_0 : decode cX9_save 0 = .ok (.aload_n 0, 1) := by decide +kernel
theorem dX9_save_1 : decode cX9_save 1 = .ok (.getfield 23, 3) := by decide +kernel
theorem dX9_save_4 : decode cX9_save 4 = .ok (.aload_n 0, 1) := by decide +kernel
theorem dX9_save_5 : decode cX9_save 5 = .ok (.getfield 65, 3) := by decide +kernel
theorem dX9_save_8 : decode cX9_save 8 = .ok (.invokevirtual 377, 3) := by decide +kernel
theorem dX9_save_11 : decode cX9_save 11 = .ok (.aload_n 0, 1) := by decide +kernel
theorem dX9_save_12 : decode cX9_save 12 = .ok (.iconst 1, 1) := by decide +kernel
theorem dX9_save_13 : decode cX9_save 13 = .ok (.putfield 72, 3) := by decide +kernel
theorem dX9_save_16 : decode cX9_save 16 = .ok (.aload_n 0, 1) := by decide +kernel
theorem dX9_save_17 : decode cX9_save 17 = .ok (.getfield 23, 3) := by decide +kernel
theorem dX9_save_20 : decode cX9_save 20 = .ok (.invokevirtual 380, 3) := by decide +kernel
theorem dX9_save_23 : decode cX9_save 23 = .ok (.ireturn, 1) := by decide +kernel
theorem dX9_restore_0 : decode cX9_restore 0 = .ok (.aload_n 0, 1) := by decide +kernel
theorem dX9_restore_1 : decode cX9_restore 1 = .ok (.getfield 72, 3) := by decide +kernel
theorem dX9_restore_4 : decode cX9_restore 4 = .ok (.ifCond .ne 14, 3) := by decide +kernel
theorem dX9_restore_7 : decode cX9_restore 7 = .ok (.new 82, 3) := by decide +kernel
theorem dX9_restore_10 : decode cX9_restore 10 = .ok (.dup, 1) := by decide +kernel
theorem dX9_restore_11 : decode cX9_restore 11 = .ok (.ldc_w 383, 3) := by decide +kernel
theorem dX9_restore_14 : decode cX9_restore 14 = .ok (.invokespecial 86, 3) := by decide +kernel
theorem dX9_restore_17 : decode cX9_restore 17 = .ok (.athrow, 1) := by decide +kernel
theorem dX9_restore_18 : decode cX9_restore 18 = .ok (.aload_n 0, 1) := by decide +kernel
theorem dX9_restore_19 : decode cX9_restore 19 = .ok (.getfield 65, 3) := by decide +kernel
theorem dX9_restore_22 : decode cX9_restore 22 = .ok (.aload_n 0, 1) := by decide +kernel
theorem dX9_restore_23 : decode cX9_restore 23 = .ok (.getfield 23, 3) := by decide +kernel
theorem dX9_restore_26 : decode cX9_restore 26 = .ok (.invokevirtual 377, 3) := by decide +kernel
theorem dX9_restore_29 : decode cX9_restore 29 = .ok (.aload_n 0, 1) := by decide +kernel
theorem dX9_restore_30 : decode cX9_restore 30 = .ok (.iconst 0, 1) := by decide +kernel
theorem dX9_restore_31 : decode cX9_restore 31 = .ok (.putfield 68, 3) := by decide +kernel
theorem dX9_restore_34 : decode cX9_restore 34 = .ok (.aload_n 0, 1) := by decide +kernel
theorem dX9_restore_35 : decode cX9_restore 35 = .ok (.getfield 65, 3) := by decide +kernel
theorem dX9_restore_38 : decode cX9_restore 38 = .ok (.invokevirtual 380, 3) := by decide +kernel
theorem dX9_restore_41 : decode cX9_restore 41 = .ok (.ireturn, 1) := by decide +kernel
theorem dX9_remember_0 : decode cX9_remember 0 = .ok (.aload_n 0, 1) := by decide +kernel
theorem dX9_remember_1 : decode cX9_remember 1 = .ok (.getfield 68, 3) := by decide +kernel
theorem dX9_remember_4 : decode cX9_remember 4 = .ok (.aload_n 0, 1) := by decide +kernel
theorem dX9_remember_5 : decode cX9_remember 5 = .ok (.getfield 18, 3) := by decide +kernel
theorem dX9_remember_8 : decode cX9_remember 8 = .ok (.arraylength, 1) := by decide +kernel
theorem dX9_remember_9 : decode cX9_remember 9 = .ok (.if_icmp .lt 65, 3) := by decide +kernel
theorem dX9_remember_12 : decode cX9_remember 12 = .ok (.aload_n 0, 1) := by decide +kernel
theorem dX9_remember_13 : decode cX9_remember 13 = .ok (.getfield 18, 3) := by decide +kernel
theorem dX9_remember_16 : decode cX9_remember 16 = .ok (.iconst 0, 1) := by decide +kernel
theorem dX9_remember_17 : decode cX9_remember 17 = .ok (.aaload, 1) := by decide +kernel
theorem dX9_remember_18 : decode cX9_remember 18 = .ok (.astore_n 1, 1) := by decide +kernel
theorem dX9_remember_19 : decode cX9_remember 19 = .ok (.iconst 1, 1) := by decide +kernel
theorem dX9_remember_20 : decode cX9_remember 20 = .ok (.istore_n 2, 1) := by decide +kernel
theorem dX9_remember_21 : decode cX9_remember 21 = .ok (.iload_n 2, 1) := by decide +kernel
theorem dX9_remember_22 : decode cX9_remember 22 = .ok (.aload_n 0, 1) := by decide +kernel
theorem dX9_remember_23 : decode cX9_remember 23 = .ok (.getfield 18, 3) := by decide +kernel
theorem dX9_remember_26 : decode cX9_remember 26 = .ok (.arraylength, 1) := by decide +kernel
theorem dX9_remember_27 : decode cX9_remember 27 = .ok (.if_icmp .ge 23, 3) := by decide +kernel
theorem dX9_remember_30 : decode cX9_remember 30 = .ok (.aload_n 0, 1) := by decide +kernel
theorem dX9_remember_31 : decode cX9_remember 31 = .ok (.getfield 18, 3) := by decide +kernel
theorem dX9_remember_34 : decode cX9_remember 34 = .ok (.iload_n 2, 1) := by decide +kernel
theorem dX9_remember_35 : decode cX9_remember 35 = .ok (.iconst 1, 1) := by decide +kernel
theorem dX9_remember_36 : decode cX9_remember 36 = .ok (.isub, 1) := by decide +kernel
theorem dX9_remember_37 : decode cX9_remember 37 = .ok (.aload_n 0, 1) := by decide +kernel
theorem dX9_remember_38 : decode cX9_remember 38 = .ok (.getfield 18, 3) := by decide +kernel
theorem dX9_remember_41 : decode cX9_remember 41 = .ok (.iload_n 2, 1) := by decide +kernel
theorem dX9_remember_42 : decode cX9_remember 42 = .ok (.aaload, 1) := by decide +kernel
theorem dX9_remember_43 : decode cX9_remember 43 = .ok (.aastore, 1) := by decide +kernel
theorem dX9_remember_44 : decode cX9_remember 44 = .ok (.iinc 2 1, 3) := by decide +kernel
theorem dX9_remember_47 : decode cX9_remember 47 = .ok (.goto (-26), 3) := by decide +kernel
theorem dX9_remember_50 : decode cX9_remember 50 = .ok (.aload_n 0, 1) := by decide +kernel
theorem dX9_remember_51 : decode cX9_remember 51 = .ok (.getfield 18, 3) := by decide +kernel
theorem dX9_remember_54 : decode cX9_remember 54 = .ok (.aload_n 0, 1) := by decide +kernel
theorem dX9_remember_55 : decode cX9_remember 55 = .ok (.getfield 18, 3) := by decide +kernel
theorem dX9_remember_58 : decode cX9_remember 58 = .ok (.arraylength, 1) := by decide +kernel
theorem dX9_remember_59 : decode cX9_remember 59 = .ok (.iconst 1, 1) := by decide +kernel
theorem dX9_remember_60 : decode cX9_remember 60 = .ok (.isub, 1) := by decide +kernel
theorem dX9_remember_61 : decode cX9_remember 61 = .ok (.aload_n 1, 1) := by decide +kernel
theorem dX9_remember_62 : decode cX9_remember 62 = .ok (.aastore, 1) := by decide +kernel
theorem dX9_remember_63 : decode cX9_remember 63 = .ok (.aload_n 0, 1) := by decide +kernel
theorem dX9_remember_64 : decode cX9_remember 64 = .ok (.aload_n 0, 1) := by decide +kernel
theorem dX9_remember_65 : decode cX9_remember 65 = .ok (.getfield 18, 3) := by decide +kernel
theorem dX9_remember_68 : decode cX9_remember 68 = .ok (.arraylength, 1) := by decide +kernel
theorem dX9_remember_69 : decode cX9_remember 69 = .ok (.iconst 1, 1) := by decide +kernel
theorem dX9_remember_70 : decode cX9_remember 70 = .ok (.isub, 1) := by decide +kernel
theorem dX9_remember_71 : decode cX9_remember 71 = .ok (.putfield 68, 3) := by decide +kernel
theorem dX9_remember_74 : decode cX9_remember 74 = .ok (.aload_n 0, 1) := by decide +kernel
theorem dX9_remember_75 : decode cX9_remember 75 = .ok (.getfield 18, 3) := by decide +kernel
theorem dX9_remember_78 : decode cX9_remember 78 = .ok (.aload_n 0, 1) := by decide +kernel
theorem dX9_remember_79 : decode cX9_remember 79 = .ok (.getfield 68, 3) := by decide +kernel
theorem dX9_remember_82 : decode cX9_remember 82 = .ok (.aaload, 1) := by decide +kernel
theorem dX9_remember_83 : decode cX9_remember 83 = .ok (.aload_n 0, 1) := by decide +kernel
theorem dX9_remember_84 : decode cX9_remember 84 = .ok (.getfield 65, 3) := by decide +kernel
theorem dX9_remember_87 : decode cX9_remember 87 = .ok (.invokevirtual 377, 3) := by decide +kernel
theorem dX9_remember_90 : decode cX9_remember 90 = .ok (.aload_n 0, 1) := by decide +kernel
theorem dX9_remember_91 : decode cX9_remember 91 = .ok (.dup, 1) := by decide +kernel
theorem dX9_remember_92 : decode cX9_remember 92 = .ok (.getfield 68, 3) := by decide +kernel
theorem dX9_remember_95 : decode cX9_remember 95 = .ok (.iconst 1, 1) := by decide +kernel
theorem dX9_remember_96 : decode cX9_remember 96 = .ok (.iadd, 1) := by decide +kernel
theorem dX9_remember_97 : decode cX9_remember 97 = .ok (.putfield 68, 3) := by decide +kernel
theorem dX9_remember_100 : decode cX9_remember 100 = .ok (.return_, 1) := by decide +kernel
theorem dX9_draftAt_0 : decode cX9_draftAt 0 = .ok (.iload_n 1, 1) := by decide +kernel
theorem dX9_draftAt_1 : decode cX9_draftAt 1 = .ok (.ifCond .lt 8, 3) := by decide +kernel
theorem dX9_draftAt_4 : decode cX9_draftAt 4 = .ok (.iload_n 1, 1) := by decide +kernel
theorem dX9_draftAt_5 : decode cX9_draftAt 5 = .ok (.iconst 4, 1) := by decide +kernel
theorem dX9_draftAt_6 : decode cX9_draftAt 6 = .ok (.if_icmp .lt 14, 3) := by decide +kernel
theorem dX9_draftAt_9 : decode cX9_draftAt 9 = .ok (.new 170, 3) := by decide +kernel
theorem dX9_draftAt_12 : decode cX9_draftAt 12 = .ok (.dup, 1) := by decide +kernel
theorem dX9_draftAt_13 : decode cX9_draftAt 13 = .ok (.ldc_w 385, 3) := by decide +kernel
theorem dX9_draftAt_16 : decode cX9_draftAt 16 = .ok (.invokespecial 174, 3) := by decide +kernel
theorem dX9_draftAt_19 : decode cX9_draftAt 19 = .ok (.athrow, 1) := by decide +kernel
theorem dX9_draftAt_20 : decode cX9_draftAt 20 = .ok (.aload_n 0, 1) := by decide +kernel
theorem dX9_draftAt_21 : decode cX9_draftAt 21 = .ok (.getfield 65, 3) := by decide +kernel
theorem dX9_draftAt_24 : decode cX9_draftAt 24 = .ok (.getfield 387, 3) := by decide +kernel
theorem dX9_draftAt_27 : decode cX9_draftAt 27 = .ok (.iload_n 1, 1) := by decide +kernel
theorem dX9_draftAt_28 : decode cX9_draftAt 28 = .ok (.aaload, 1) := by decide +kernel
theorem dX9_draftAt_29 : decode cX9_draftAt 29 = .ok (.areturn, 1) := by decide +kernel
theorem dX9_lineAt_0 : decode cX9_lineAt 0 = .ok (.aload_n 0, 1) := by decide +kernel
theorem dX9_lineAt_1 : decode cX9_lineAt 1 = .ok (.iload_n 1, 1) := by decide +kernel
theorem dX9_lineAt_2 : decode cX9_lineAt 2 = .ok (.invokevirtual 182, 3) := by decide +kernel
theorem dX9_lineAt_5 : decode cX9_lineAt 5 = .ok (.iload_n 2, 1) := by decide +kernel
theorem dX9_lineAt_6 : decode cX9_lineAt 6 = .ok (.invokevirtual 391, 3) := by decide +kernel
theorem dX9_lineAt_9 : decode cX9_lineAt 9 = .ok (.astore_n 3, 1) := by decide +kernel
theorem dX9_lineAt_10 : decode cX9_lineAt 10 = .ok (.aload_n 3, 1) := by decide +kernel
theorem dX9_lineAt_11 : decode cX9_lineAt 11 = .ok (.ifnonnull 14, 3) := by decide +kernel
theorem dX9_lineAt_14 : decode cX9_lineAt 14 = .ok (.new 170, 3) := by decide +kernel
theorem dX9_lineAt_17 : decode cX9_lineAt 17 = .ok (.dup, 1) := by decide +kernel
theorem dX9_lineAt_18 : decode cX9_lineAt 18 = .ok (.ldc_w 395, 3) := by decide +kernel
theorem dX9_lineAt_21 : decode cX9_lineAt 21 = .ok (.invokespecial 174, 3) := by decide +kernel
theorem dX9_lineAt_24 : decode cX9_lineAt 24 = .ok (.athrow, 1) := by decide +kernel
theorem dX9_lineAt_25 : decode cX9_lineAt 25 = .ok (.aload_n 3, 1) := by decide +kernel
theorem dX9_lineAt_26 : decode cX9_lineAt 26 = .ok (.areturn, 1) := by decide +kernel
theorem dX9_bestKey_0 : decode cX9_bestKey 0 = .ok (.aload_n 0, 1) := by decide +kernel
theorem dX9_bestKey_1 : decode cX9_bestKey 1 = .ok (.getfield 30, 3) := by decide +kernel
theorem dX9_bestKey_4 : decode cX9_bestKey 4 = .ok (.aload_n 1, 1) := by decide +kernel
theorem dX9_bestKey_5 : decode cX9_bestKey 5 = .ok (.aload_n 0, 1) := by decide +kernel
theorem dX9_bestKey_6 : decode cX9_bestKey 6 = .ok (.getfield 65, 3) := by decide +kernel
theorem dX9_bestKey_9 : decode cX9_bestKey 9 = .ok (.invokevirtual 237, 3) := by decide +kernel
theorem dX9_bestKey_12 : decode cX9_bestKey 12 = .ok (.aload_n 0, 1) := by decide +kernel
theorem dX9_bestKey_13 : decode cX9_bestKey 13 = .ok (.getfield 39, 3) := by decide +kernel
theorem dX9_bestKey_16 : decode cX9_bestKey 16 = .ok (.aload_n 0, 1) := by decide +kernel
theorem dX9_bestKey_17 : decode cX9_bestKey 17 = .ok (.getfield 65, 3) := by decide +kernel
theorem dX9_bestKey_20 : decode cX9_bestKey 20 = .ok (.getfield 109, 3) := by decide +kernel
theorem dX9_bestKey_23 : decode cX9_bestKey 23 = .ok (.invokevirtual 397, 3) := by decide +kernel
theorem dX9_bestKey_26 : decode cX9_bestKey 26 = .ok (.ireturn, 1) := by decide +kernel
theorem dX9_fits_0 : decode cX9_fits 0 = .ok (.iload_n 1, 1) := by decide +kernel
theorem dX9_fits_1 : decode cX9_fits 1 = .ok (.ldc_w 328, 3) := by decide +kernel
theorem dX9_fits_4 : decode cX9_fits 4 = .ok (.if_icmp .eq 21, 3) := by decide +kernel
theorem dX9_fits_7 : decode cX9_fits 7 = .ok (.iload_n 1, 1) := by decide +kernel
theorem dX9_fits_8 : decode cX9_fits 8 = .ok (.bipush 16, 2) := by decide +kernel
theorem dX9_fits_10 : decode cX9_fits 10 = .ok (.ishr, 1) := by decide +kernel
theorem dX9_fits_11 : decode cX9_fits 11 = .ok (.aload_n 0, 1) := by decide +kernel
theorem dX9_fits_12 : decode cX9_fits 12 = .ok (.getfield 65, 3) := by decide +kernel
theorem dX9_fits_15 : decode cX9_fits 15 = .ok (.getfield 138, 3) := by decide +kernel
theorem dX9_fits_18 : decode cX9_fits 18 = .ok (.if_icmp .gt 7, 3) := by decide +kernel
theorem dX9_fits_21 : decode cX9_fits 21 = .ok (.iconst 1, 1) := by decide +kernel
theorem dX9_fits_22 : decode cX9_fits 22 = .ok (.goto 4, 3) := by decide +kernel
theorem dX9_fits_25 : decode cX9_fits 25 = .ok (.iconst 0, 1) := by decide +kernel
theorem dX9_fits_26 : decode cX9_fits 26 = .ok (.ireturn, 1) := by decide +kernel
theorem dX9_numberOfScan_0 : decode cX9_numberOfScan 0 = .ok (.iload_n 1, 1) := by decide +kernel
theorem dX9_numberOfScan_1 : decode cX9_numberOfScan 1 = .ok (.iconst 1, 1) := by decide +kernel
theorem dX9_numberOfScan_2 : decode cX9_numberOfScan 2 = .ok (.ishr, 1) := by decide +kernel
theorem dX9_numberOfScan_3 : decode cX9_numberOfScan 3 = .ok (.sipush 2047, 3) := by decide +kernel
theorem dX9_numberOfScan_6 : decode cX9_numberOfScan 6 = .ok (.iand, 1) := by decide +kernel
theorem dX9_numberOfScan_7 : decode cX9_numberOfScan 7 = .ok (.istore_n 3, 1) := by decide +kernel
theorem dX9_numberOfScan_8 : decode cX9_numberOfScan 8 = .ok (.iload_n 1, 1) := by decide +kernel
theorem dX9_numberOfScan_9 : decode cX9_numberOfScan 9 = .ok (.iconst 1, 1) := by decide +kernel
theorem dX9_numberOfScan_10 : decode cX9_numberOfScan 10 = .ok (.iand, 1) := by decide +kernel
theorem dX9_numberOfScan_11 : decode cX9_numberOfScan 11 = .ok (.iconst 1, 1) := by decide +kernel
theorem dX9_numberOfScan_12 : decode cX9_numberOfScan 12 = .ok (.if_icmp .ne 7, 3) := by decide +kernel
theorem dX9_numberOfScan_15 : decode cX9_numberOfScan 15 = .ok (.iconst 1, 1) := by decide +kernel
theorem dX9_numberOfScan_16 : decode cX9_numberOfScan 16 = .ok (.goto 4, 3) := by decide +kernel
theorem dX9_numberOfScan_19 : decode cX9_numberOfScan 19 = .ok (.iconst 0, 1) := by decide +kernel
theorem dX9_numberOfScan_20 : decode cX9_numberOfScan 20 = .ok (.istore 4, 2) := by decide +kernel
theorem dX9_numberOfScan_22 : decode cX9_numberOfScan 22 = .ok (.iload_n 2, 1) := by decide +kernel
theorem dX9_numberOfScan_23 : decode cX9_numberOfScan 23 = .ok (.tableswitch 83 0 4 #[33, 38, 40, 44, 57], 33) := by decide +kernel
theorem dX9_numberOfScan_56 : decode cX9_numberOfScan 56 = .ok (.iload_n 1, 1) := by decide +kernel
theorem dX9_numberOfScan_57 : decode cX9_numberOfScan 57 = .ok (.bipush 16, 2) := by decide +kernel
theorem dX9_numberOfScan_59 : decode cX9_numberOfScan 59 = .ok (.ishr, 1) := by decide +kernel
theorem dX9_numberOfScan_60 : decode cX9_numberOfScan 60 = .ok (.ireturn, 1) := by decide +kernel
theorem dX9_numberOfScan_61 : decode cX9_numberOfScan 61 = .ok (.iload_n 3, 1) := by decide +kernel
theorem dX9_numberOfScan_62 : decode cX9_numberOfScan 62 = .ok (.ireturn, 1) := by decide +kernel
theorem dX9_numberOfScan_63 : decode cX9_numberOfScan 63 = .ok (.iload_n 1, 1) := by decide +kernel
theorem dX9_numberOfScan_64 : decode cX9_numberOfScan 64 = .ok (.iconst 1, 1) := by decide +kernel
theorem dX9_numberOfScan_65 : decode cX9_numberOfScan 65 = .ok (.iand, 1) := by decide +kernel
theorem dX9_numberOfScan_66 : decode cX9_numberOfScan 66 = .ok (.ireturn, 1) := by decide +kernel
theorem dX9_numberOfScan_67 : decode cX9_numberOfScan 67 = .ok (.aload_n 0, 1) := by decide +kernel
theorem dX9_numberOfScan_68 : decode cX9_numberOfScan 68 = .ok (.getfield 30, 3) := by decide +kernel
theorem dX9_numberOfScan_71 : decode cX9_numberOfScan 71 = .ok (.getfield 241, 3) := by decide +kernel
theorem dX9_numberOfScan_74 : decode cX9_numberOfScan 74 = .ok (.iload_n 3, 1) := by decide +kernel
theorem dX9_numberOfScan_75 : decode cX9_numberOfScan 75 = .ok (.invokestatic 253, 3) := by decide +kernel
theorem dX9_numberOfScan_78 : decode cX9_numberOfScan 78 = .ok (.isub, 1) := by decide +kernel
theorem dX9_numberOfScan_79 : decode cX9_numberOfScan 79 = .ok (.ireturn, 1) := by decide +kernel
theorem dX9_numberOfScan_80 : decode cX9_numberOfScan 80 = .ok (.aload_n 0, 1) := by decide +kernel
theorem dX9_numberOfScan_81 : decode cX9_numberOfScan 81 = .ok (.getfield 39, 3) := by decide +kernel
theorem dX9_numberOfScan_84 : decode cX9_numberOfScan 84 = .ok (.aload_n 0, 1) := by decide +kernel
theorem dX9_numberOfScan_85 : decode cX9_numberOfScan 85 = .ok (.getfield 65, 3) := by decide +kernel
theorem dX9_numberOfScan_88 : decode cX9_numberOfScan 88 = .ok (.getfield 109, 3) := by decide +kernel
theorem dX9_numberOfScan_91 : decode cX9_numberOfScan 91 = .ok (.iload_n 3, 1) := by decide +kernel
theorem dX9_numberOfScan_92 : decode cX9_numberOfScan 92 = .ok (.iload 4, 2) := by decide +kernel
theorem dX9_numberOfScan_94 : decode cX9_numberOfScan 94 = .ok (.invokevirtual 316, 3) := by decide +kernel
theorem dX9_numberOfScan_97 : decode cX9_numberOfScan 97 = .ok (.pop, 1) := by decide +kernel
theorem dX9_numberOfScan_98 : decode cX9_numberOfScan 98 = .ok (.aload_n 0, 1) := by decide +kernel
theorem dX9_numberOfScan_99 : decode cX9_numberOfScan 99 = .ok (.getfield 39, 3) := by decide +kernel
theorem dX9_numberOfScan_102 : decode cX9_numberOfScan 102 = .ok (.invokevirtual 401, 3) := by decide +kernel
theorem dX9_numberOfScan_105 : decode cX9_numberOfScan 105 = .ok (.ireturn, 1) := by decide +kernel
theorem dX9_numberOfScan_106 : decode cX9_numberOfScan 106 = .ok (.aload_n 0, 1) := by decide +kernel
theorem dX9_numberOfScan_107 : decode cX9_numberOfScan 107 = .ok (.getfield 39, 3) := by decide +kernel
theorem dX9_numberOfScan_110 : decode cX9_numberOfScan 110 = .ok (.aload_n 0, 1) := by decide +kernel
theorem dX9_numberOfScan_111 : decode cX9_numberOfScan 111 = .ok (.getfield 65, 3) := by decide +kernel
theorem dX9_numberOfScan_114 : decode cX9_numberOfScan 114 = .ok (.getfield 109, 3) := by decide +kernel
theorem dX9_numberOfScan_117 : decode cX9_numberOfScan 117 = .ok (.iload_n 3, 1) := by decide +kernel
theorem dX9_numberOfScan_118 : decode cX9_numberOfScan 118 = .ok (.iload 4, 2) := by decide +kernel
theorem dX9_numberOfScan_120 : decode cX9_numberOfScan 120 = .ok (.invokevirtual 316, 3) := by decide +kernel
theorem dX9_numberOfScan_123 : decode cX9_numberOfScan 123 = .ok (.pop, 1) := by decide +kernel
theorem dX9_numberOfScan_124 : decode cX9_numberOfScan 124 = .ok (.aload_n 0, 1) := by decide +kernel
theorem dX9_numberOfScan_125 : decode cX9_numberOfScan 125 = .ok (.getfield 39, 3) := by decide +kernel
theorem dX9_numberOfScan_128 : decode cX9_numberOfScan 128 = .ok (.invokevirtual 404, 3) := by decide +kernel
theorem dX9_numberOfScan_131 : decode cX9_numberOfScan 131 = .ok (.ireturn, 1) := by decide +kernel
theorem dX9_sumOfShares_0 : decode cX9_sumOfShares 0 = .ok (.iconst 0, 1) := by decide +kernel
theorem dX9_sumOfShares_1 : decode cX9_sumOfShares 1 = .ok (.istore_n 3, 1) := by decide +kernel
theorem dX9_sumOfShares_2 : decode cX9_sumOfShares 2 = .ok (.iconst 0, 1) := by decide +kernel
theorem dX9_sumOfShares_3 : decode cX9_sumOfShares 3 = .ok (.istore 4, 2) := by decide +kernel
theorem dX9_sumOfShares_5 : decode cX9_sumOfShares 5 = .ok (.iload 4, 2) := by decide +kernel
theorem dX9_sumOfShares_7 : decode cX9_sumOfShares 7 = .ok (.aload_n 1, 1) := by decide +kernel
theorem dX9_sumOfShares_8 : decode cX9_sumOfShares 8 = .ok (.getfield 186, 3) := by decide +kernel
theorem dX9_sumOfShares_11 : decode cX9_sumOfShares 11 = .ok (.if_icmp .ge 32, 3) := by decide +kernel
theorem dX9_sumOfShares_14 : decode cX9_sumOfShares 14 = .ok (.aload_n 1, 1) := by decide +kernel
theorem dX9_sumOfShares_15 : decode cX9_sumOfShares 15 = .ok (.iload 4, 2) := by decide +kernel
theorem dX9_sumOfShares_17 : decode cX9_sumOfShares 17 = .ok (.invokevirtual 391, 3) := by decide +kernel
theorem dX9_sumOfShares_20 : decode cX9_sumOfShares 20 = .ok (.astore 5, 2) := by decide +kernel
theorem dX9_sumOfShares_22 : decode cX9_sumOfShares 22 = .ok (.aload 5, 2) := by decide +kernel
theorem dX9_sumOfShares_24 : decode cX9_sumOfShares 24 = .ok (.ifnull 13, 3) := by decide +kernel
theorem dX9_sumOfShares_27 : decode cX9_sumOfShares 27 = .ok (.iload_n 3, 1) := by decide +kernel
theorem dX9_sumOfShares_28 : decode cX9_sumOfShares 28 = .ok (.aload_n 0, 1) := by decide +kernel
theorem dX9_sumOfShares_29 : decode cX9_sumOfShares 29 = .ok (.aload 5, 2) := by decide +kernel
theorem dX9_sumOfShares_31 : decode cX9_sumOfShares 31 = .ok (.iload_n 2, 1) := by decide +kernel
theorem dX9_sumOfShares_32 : decode cX9_sumOfShares 32 = .ok (.invokevirtual 407, 3) := by decide +kernel
theorem dX9_sumOfShares_35 : decode cX9_sumOfShares 35 = .ok (.iadd, 1) := by decide +kernel
theorem dX9_sumOfShares_36 : decode cX9_sumOfShares 36 = .ok (.istore_n 3, 1) := by decide +kernel
theorem dX9_sumOfShares_37 : decode cX9_sumOfShares 37 = .ok (.iinc 4 1, 3) := by decide +kernel
theorem dX9_sumOfShares_40 : decode cX9_sumOfShares 40 = .ok (.goto (-35), 3) := by decide +kernel
theorem dX9_sumOfShares_43 : decode cX9_sumOfShares 43 = .ok (.iload_n 3, 1) := by decide +kernel
theorem dX9_sumOfShares_44 : decode cX9_sumOfShares 44 = .ok (.ireturn, 1) := by decide +kernel
theorem dX9_share_0 : decode cX9_share 0 = .ok (.aload_n 0, 1) := by decide +kernel
theorem dX9_share_1 : decode cX9_share 1 = .ok (.getfield 30, 3) := by decide +kernel
theorem dX9_share_4 : decode cX9_share 4 = .ok (.aload_n 1, 1) := by decide +kernel
theorem dX9_share_5 : decode cX9_share 5 = .ok (.aload_n 0, 1) := by decide +kernel
theorem dX9_share_6 : decode cX9_share 6 = .ok (.getfield 65, 3) := by decide +kernel
theorem dX9_share_9 : decode cX9_share 9 = .ok (.invokevirtual 237, 3) := by decide +kernel
theorem dX9_share_12 : decode cX9_share 12 = .ok (.aload_n 0, 1) := by decide +kernel
theorem dX9_share_13 : decode cX9_share 13 = .ok (.getfield 39, 3) := by decide +kernel
theorem dX9_share_16 : decode cX9_share 16 = .ok (.aload_n 0, 1) := by decide +kernel
theorem dX9_share_17 : decode cX9_share 17 = .ok (.getfield 65, 3) := by decide +kernel
theorem dX9_share_20 : decode cX9_share 20 = .ok (.getfield 109, 3) := by decide +kernel
theorem dX9_share_23 : decode cX9_share 23 = .ok (.invokevirtual 397, 3) := by decide +kernel
theorem dX9_share_26 : decode cX9_share 26 = .ok (.istore_n 3, 1) := by decide +kernel
theorem dX9_share_27 : decode cX9_share 27 = .ok (.iload_n 3, 1) := by decide +kernel
theorem dX9_share_28 : decode cX9_share 28 = .ok (.ldc_w 328, 3) := by decide +kernel
theorem dX9_share_31 : decode cX9_share 31 = .ok (.if_icmp .eq 7, 3) := by decide +kernel
theorem dX9_share_34 : decode cX9_share 34 = .ok (.iconst 1, 1) := by decide +kernel
theorem dX9_share_35 : decode cX9_share 35 = .ok (.goto 4, 3) := by decide +kernel
theorem dX9_share_38 : decode cX9_share 38 = .ok (.iconst 0, 1) := by decide +kernel
theorem dX9_share_39 : decode cX9_share 39 = .ok (.istore 4, 2) := by decide +kernel
theorem dX9_share_41 : decode cX9_share 41 = .ok (.iload_n 2, 1) := by decide +kernel
theorem dX9_share_42 : decode cX9_share 42 = .ok (.tableswitch 105 1 6 #[38, 52, 66, 105, 77, 85], 38) := by decide +kernel
theorem dX9_share_80 : decode cX9_share 80 = .ok (.aload_n 0, 1) := by decide +kernel
theorem dX9_share_81 : decode cX9_share 81 = .ok (.iload_n 3, 1) := by decide +kernel
theorem dX9_share_82 : decode cX9_share 82 = .ok (.invokevirtual 337, 3) := by decide +kernel
theorem dX9_share_85 : decode cX9_share 85 = .ok (.ifCond .eq 7, 3) := by decide +kernel
theorem dX9_share_88 : decode cX9_share 88 = .ok (.iconst 1, 1) := by decide +kernel
theorem dX9_share_89 : decode cX9_share 89 = .ok (.goto 4, 3) := by decide +kernel
theorem dX9_share_92 : decode cX9_share 92 = .ok (.iconst 0, 1) := by decide +kernel
theorem dX9_share_93 : decode cX9_share 93 = .ok (.ireturn, 1) := by decide +kernel
theorem dX9_share_94 : decode cX9_share 94 = .ok (.iload 4, 2) := by decide +kernel
theorem dX9_share_96 : decode cX9_share 96 = .ok (.ifCond .eq 10, 3) := by decide +kernel
theorem dX9_share_99 : decode cX9_share 99 = .ok (.iload_n 3, 1) := by decide +kernel
theorem dX9_share_100 : decode cX9_share 100 = .ok (.bipush 16, 2) := by decide +kernel
theorem dX9_share_102 : decode cX9_share 102 = .ok (.ishr, 1) := by decide +kernel
theorem dX9_share_103 : decode cX9_share 103 = .ok (.goto 4, 3) := by decide +kernel
theorem dX9_share_106 : decode cX9_share 106 = .ok (.iconst 0, 1) := by decide +kernel
theorem dX9_share_107 : decode cX9_share 107 = .ok (.ireturn, 1) := by decide +kernel
theorem dX9_share_108 : decode cX9_share 108 = .ok (.iload 4, 2) := by decide +kernel
theorem dX9_share_110 : decode cX9_share 110 = .ok (.ifCond .eq 7, 3) := by decide +kernel
theorem dX9_share_113 : decode cX9_share 113 = .ok (.iconst 0, 1) := by decide +kernel
theorem dX9_share_114 : decode cX9_share 114 = .ok (.goto 4, 3) := by decide +kernel
theorem dX9_share_117 : decode cX9_share 117 = .ok (.iconst 1, 1) := by decide +kernel
theorem dX9_share_118 : decode cX9_share 118 = .ok (.ireturn, 1) := by decide +kernel
theorem dX9_share_119 : decode cX9_share 119 = .ok (.aload_n 0, 1) := by decide +kernel
theorem dX9_share_120 : decode cX9_share 120 = .ok (.getfield 30, 3) := by decide +kernel
theorem dX9_share_123 : decode cX9_share 123 = .ok (.getfield 241, 3) := by decide +kernel
theorem dX9_share_126 : decode cX9_share 126 = .ok (.ireturn, 1) := by decide +kernel
theorem dX9_share_127 : decode cX9_share 127 = .ok (.iload 4, 2) := by decide +kernel
theorem dX9_share_129 : decode cX9_share 129 = .ok (.ifCond .eq 16, 3) := by decide +kernel
theorem dX9_share_132 : decode cX9_share 132 = .ok (.iload_n 3, 1) := by decide +kernel
theorem dX9_share_133 : decode cX9_share 133 = .ok (.iconst 1, 1) := by decide +kernel
theorem dX9_share_134 : decode cX9_share 134 = .ok (.ishr, 1) := by decide +kernel
theorem dX9_share_135 : decode cX9_share 135 = .ok (.sipush 2047, 3) := by decide +kernel
theorem dX9_share_138 : decode cX9_share 138 = .ok (.iand, 1) := by decide +kernel
theorem dX9_share_139 : decode cX9_share 139 = .ok (.invokestatic 253, 3) := by decide +kernel
theorem dX9_share_142 : decode cX9_share 142 = .ok (.goto 4, 3) := by decide +kernel
theorem dX9_share_145 : decode cX9_share 145 = .ok (.iconst 0, 1) := by decide +kernel
theorem dX9_share_146 : decode cX9_share 146 = .ok (.ireturn, 1) := by decide +kernel
theorem dX9_share_147 : decode cX9_share 147 = .ok (.aload_n 0, 1) := by decide +kernel
theorem dX9_share_148 : decode cX9_share 148 = .ok (.getfield 30, 3) := by decide +kernel
theorem dX9_share_151 : decode cX9_share 151 = .ok (.getfield 411, 3) := by decide +kernel
theorem dX9_share_154 : decode cX9_share 154 = .ok (.ireturn, 1) := by decide +kernel
theorem dX9_tryCandidates_0 : decode cX9_tryCandidates 0 = .ok (.aload_n 0, 1) := by decide +kernel
theorem dX9_tryCandidates_1 : decode cX9_tryCandidates 1 = .ok (.getfield 49, 3) := by decide +kernel
theorem dX9_tryCandidates_4 : decode cX9_tryCandidates 4 = .ok (.iconst 0, 1) := by decide +kernel
theorem dX9_tryCandidates_5 : decode cX9_tryCandidates 5 = .ok (.invokestatic 414, 3) := by decide +kernel
theorem dX9_tryCandidates_8 : decode cX9_tryCandidates 8 = .ok (.aload_n 0, 1) := by decide +kernel
theorem dX9_tryCandidates_9 : decode cX9_tryCandidates 9 = .ok (.getfield 53, 3) := by decide +kernel
theorem dX9_tryCandidates_12 : decode cX9_tryCandidates 12 = .ok (.iconst 0, 1) := by decide +kernel
theorem dX9_tryCandidates_13 : decode cX9_tryCandidates 13 = .ok (.invokestatic 414, 3) := by decide +kernel
theorem dX9_tryCandidates_16 : decode cX9_tryCandidates 16 = .ok (.iconst 0, 1) := by decide +kernel
theorem dX9_tryCandidates_17 : decode cX9_tryCandidates 17 = .ok (.istore_n 2, 1) := by decide +kernel
theorem dX9_tryCandidates_18 : decode cX9_tryCandidates 18 = .ok (.iload_n 2, 1) := by decide +kernel
theorem dX9_tryCandidates_19 : decode cX9_tryCandidates 19 = .ok (.aload_n 1, 1) := by decide +kernel
theorem dX9_tryCandidates_20 : decode cX9_tryCandidates 20 = .ok (.getfield 186, 3) := by decide +kernel
theorem dX9_tryCandidates_23 : decode cX9_tryCandidates 23 = .ok (.if_icmp .ge 24, 3) := by decide +kernel
theorem dX9_tryCandidates_26 : decode cX9_tryCandidates 26 = .ok (.aload_n 1, 1) := by decide +kernel
theorem dX9_tryCandidates_27 : decode cX9_tryCandidates 27 = .ok (.iload_n 2, 1) := by decide +kernel
theorem dX9_tryCandidates_28 : decode cX9_tryCandidates 28 = .ok (.invokevirtual 391, 3) := by decide +kernel
theorem dX9_tryCandidates_31 : decode cX9_tryCandidates 31 = .ok (.astore_n 3, 1) := by decide +kernel
theorem dX9_tryCandidates_32 : decode cX9_tryCandidates 32 = .ok (.aload_n 3, 1) := by decide +kernel
theorem dX9_tryCandidates_33 : decode cX9_tryCandidates 33 = .ok (.ifnull 8, 3) := by decide +kernel
theorem dX9_tryCandidates_36 : decode cX9_tryCandidates 36 = .ok (.aload_n 0, 1) := by decide +kernel
theorem dX9_tryCandidates_37 : decode cX9_tryCandidates 37 = .ok (.aload_n 3, 1) := by decide +kernel
theorem dX9_tryCandidates_38 : decode cX9_tryCandidates 38 = .ok (.invokevirtual 419, 3) := by decide +kernel
theorem dX9_tryCandidates_41 : decode cX9_tryCandidates 41 = .ok (.iinc 2 1, 3) := by decide +kernel
theorem dX9_tryCandidates_44 : decode cX9_tryCandidates 44 = .ok (.goto (-26), 3) := by decide +kernel
theorem dX9_tryCandidates_47 : decode cX9_tryCandidates 47 = .ok (.return_, 1) := by decide +kernel
theorem dX9_tryCandidatesOn_0 : decode cX9_tryCandidatesOn 0 = .ok (.aload_n 0, 1) := by decide +kernel
theorem dX9_tryCandidatesOn_1 : decode cX9_tryCandidatesOn 1 = .ok (.getfield 30, 3) := by decide +kernel
theorem dX9_tryCandidatesOn_4 : decode cX9_tryCandidatesOn 4 = .ok (.aload_n 1, 1) := by decide +kernel
theorem dX9_tryCandidatesOn_5 : decode cX9_tryCandidatesOn 5 = .ok (.aload_n 0, 1) := by decide +kernel
theorem dX9_tryCandidatesOn_6 : decode cX9_tryCandidatesOn 6 = .ok (.getfield 65, 3) := by decide +kernel
theorem dX9_tryCandidatesOn_9 : decode cX9_tryCandidatesOn 9 = .ok (.invokevirtual 237, 3) := by decide +kernel
theorem dX9_tryCandidatesOn_12 : decode cX9_tryCandidatesOn 12 = .ok (.iconst 0, 1) := by decide +kernel
theorem dX9_tryCandidatesOn_13 : decode cX9_tryCandidatesOn 13 = .ok (.istore_n 2, 1) := by decide +kernel
theorem dX9_tryCandidatesOn_14 : decode cX9_tryCandidatesOn 14 = .ok (.iload_n 2, 1) := by decide +kernel
theorem dX9_tryCandidatesOn_15 : decode cX9_tryCandidatesOn 15 = .ok (.aload_n 0, 1) := by decide +kernel
theorem dX9_tryCandidatesOn_16 : decode cX9_tryCandidatesOn 16 = .ok (.getfield 45, 3) := by decide +kernel
theorem dX9_tryCandidatesOn_19 : decode cX9_tryCandidatesOn 19 = .ok (.arraylength, 1) := by decide +kernel
theorem dX9_tryCandidatesOn_20 : decode cX9_tryCandidatesOn 20 = .ok (.if_icmp .ge 54, 3) := by decide +kernel
theorem dX9_tryCandidatesOn_23 : decode cX9_tryCandidatesOn 23 = .ok (.aload_n 0, 1) := by decide +kernel
theorem dX9_tryCandidatesOn_24 : decode cX9_tryCandidatesOn 24 = .ok (.getfield 39, 3) := by decide +kernel
theorem dX9_tryCandidatesOn_27 : decode cX9_tryCandidatesOn 27 = .ok (.aload_n 0, 1) := by decide +kernel
theorem dX9_tryCandidatesOn_28 : decode cX9_tryCandidatesOn 28 = .ok (.getfield 45, 3) := by decide +kernel
theorem dX9_tryCandidatesOn_31 : decode cX9_tryCandidatesOn 31 = .ok (.iload_n 2, 1) := by decide +kernel
theorem dX9_tryCandidatesOn_32 : decode cX9_tryCandidatesOn 32 = .ok (.aaload, 1) := by decide +kernel
theorem dX9_tryCandidatesOn_33 : decode cX9_tryCandidatesOn 33 = .ok (.invokevirtual 397, 3) := by decide +kernel
theorem dX9_tryCandidatesOn_36 : decode cX9_tryCandidatesOn 36 = .ok (.istore_n 3, 1) := by decide +kernel
theorem dX9_tryCandidatesOn_37 : decode cX9_tryCandidatesOn 37 = .ok (.aload_n 0, 1) := by decide +kernel
theorem dX9_tryCandidatesOn_38 : decode cX9_tryCandidatesOn 38 = .ok (.iload_n 3, 1) := by decide +kernel
theorem dX9_tryCandidatesOn_39 : decode cX9_tryCandidatesOn 39 = .ok (.invokevirtual 337, 3) := by decide +kernel
theorem dX9_tryCandidatesOn_42 : decode cX9_tryCandidatesOn 42 = .ok (.ifCond .eq 26, 3) := by decide +kernel
theorem dX9_tryCandidatesOn_45 : decode cX9_tryCandidatesOn 45 = .ok (.aload_n 0, 1) := by decide +kernel
theorem dX9_tryCandidatesOn_46 : decode cX9_tryCandidatesOn 46 = .ok (.getfield 49, 3) := by decide +kernel
theorem dX9_tryCandidatesOn_49 : decode cX9_tryCandidatesOn 49 = .ok (.iload_n 2, 1) := by decide +kernel
theorem dX9_tryCandidatesOn_50 : decode cX9_tryCandidatesOn 50 = .ok (.dup2, 1) := by decide +kernel
theorem dX9_tryCandidatesOn_51 : decode cX9_tryCandidatesOn 51 = .ok (.iaload, 1) := by decide +kernel
theorem dX9_tryCandidatesOn_52 : decode cX9_tryCandidatesOn 52 = .ok (.iconst 1, 1) := by decide +kernel
theorem dX9_tryCandidatesOn_53 : decode cX9_tryCandidatesOn 53 = .ok (.iadd, 1) := by decide +kernel
theorem dX9_tryCandidatesOn_54 : decode cX9_tryCandidatesOn 54 = .ok (.iastore, 1) := by decide +kernel
theorem dX9_tryCandidatesOn_55 : decode cX9_tryCandidatesOn 55 = .ok (.aload_n 0, 1) := by decide +kernel
theorem dX9_tryCandidatesOn_56 : decode cX9_tryCandidatesOn 56 = .ok (.getfield 53, 3) := by decide +kernel
theorem dX9_tryCandidatesOn_59 : decode cX9_tryCandidatesOn 59 = .ok (.iload_n 2, 1) := by decide +kernel
theorem dX9_tryCandidatesOn_60 : decode cX9_tryCandidatesOn 60 = .ok (.dup2, 1) := by decide +kernel
theorem dX9_tryCandidatesOn_61 : decode cX9_tryCandidatesOn 61 = .ok (.iaload, 1) := by decide +kernel
theorem dX9_tryCandidatesOn_62 : decode cX9_tryCandidatesOn 62 = .ok (.iload_n 3, 1) := by decide +kernel
theorem dX9_tryCandidatesOn_63 : decode cX9_tryCandidatesOn 63 = .ok (.bipush 16, 2) := by decide +kernel
theorem dX9_tryCandidatesOn_65 : decode cX9_tryCandidatesOn 65 = .ok (.ishr, 1) := by decide +kernel
theorem dX9_tryCandidatesOn_66 : decode cX9_tryCandidatesOn 66 = .ok (.iadd, 1) := by decide +kernel
theorem dX9_tryCandidatesOn_67 : decode cX9_tryCandidatesOn 67 = .ok (.iastore, 1) := by decide +kernel
theorem dX9_tryCandidatesOn_68 : decode cX9_tryCandidatesOn 68 = .ok (.iinc 2 1, 3) := by decide +kernel
theorem dX9_tryCandidatesOn_71 : decode cX9_tryCandidatesOn 71 = .ok (.goto (-57), 3) := by decide +kernel
theorem dX9_tryCandidatesOn_74 : decode cX9_tryCandidatesOn 74 = .ok (.return_, 1) := by decide +kernel
theorem dX9_bestCandidate_0 : decode cX9_bestCandidate 0 = .ok (.iconst (-1), 1) := by decide +kernel
theorem dX9_bestCandidate_1 : decode cX9_bestCandidate 1 = .ok (.istore_n 1, 1) := by decide +kernel
theorem dX9_bestCandidate_2 : decode cX9_bestCandidate 2 = .ok (.iconst 0, 1) := by decide +kernel
theorem dX9_bestCandidate_3 : decode cX9_bestCandidate 3 = .ok (.istore_n 2, 1) := by decide +kernel
theorem dX9_bestCandidate_4 : decode cX9_bestCandidate 4 = .ok (.iconst 0, 1) := by decide +kernel
theorem dX9_bestCandidate_5 : decode cX9_bestCandidate 5 = .ok (.istore_n 3, 1) := by decide +kernel
theorem dX9_bestCandidate_6 : decode cX9_bestCandidate 6 = .ok (.iconst 0, 1) := by decide +kernel
theorem dX9_bestCandidate_7 : decode cX9_bestCandidate 7 = .ok (.istore 4, 2) := by decide +kernel
theorem dX9_bestCandidate_9 : decode cX9_bestCandidate 9 = .ok (.iload 4, 2) := by decide +kernel
theorem dX9_bestCandidate_11 : decode cX9_bestCandidate 11 = .ok (.aload_n 0, 1) := by decide +kernel
theorem dX9_bestCandidate_12 : decode cX9_bestCandidate 12 = .ok (.getfield 45, 3) := by decide +kernel
theorem dX9_bestCandidate_15 : decode cX9_bestCandidate 15 = .ok (.arraylength, 1) := by decide +kernel
theorem dX9_bestCandidate_16 : decode cX9_bestCandidate 16 = .ok (.if_icmp .ge 65, 3) := by decide +kernel
theorem dX9_bestCandidate_19 : decode cX9_bestCandidate 19 = .ok (.aload_n 0, 1) := by decide +kernel
theorem dX9_bestCandidate_20 : decode cX9_bestCandidate 20 = .ok (.getfield 49, 3) := by decide +kernel
theorem dX9_bestCandidate_23 : decode cX9_bestCandidate 23 = .ok (.iload 4, 2) := by decide +kernel
theorem dX9_bestCandidate_25 : decode cX9_bestCandidate 25 = .ok (.iaload, 1) := by decide +kernel
theorem dX9_bestCandidate_26 : decode cX9_bestCandidate 26 = .ok (.iload_n 2, 1) := by decide +kernel
theorem dX9_bestCandidate_27 : decode cX9_bestCandidate 27 = .ok (.if_icmp .gt 29, 3) := by decide +kernel
theorem dX9_bestCandidate_30 : decode cX9_bestCandidate 30 = .ok (.aload_n 0, 1) := by decide +kernel
theorem dX9_bestCandidate_31 : decode cX9_bestCandidate 31 = .ok (.getfield 49, 3) := by decide +kernel
theorem dX9_bestCandidate_34 : decode cX9_bestCandidate 34 = .ok (.iload 4, 2) := by decide +kernel
theorem dX9_bestCandidate_36 : decode cX9_bestCandidate 36 = .ok (.iaload, 1) := by decide +kernel
theorem dX9_bestCandidate_37 : decode cX9_bestCandidate 37 = .ok (.iload_n 2, 1) := by decide +kernel
theorem dX9_bestCandidate_38 : decode cX9_bestCandidate 38 = .ok (.if_icmp .ne 37, 3) := by decide +kernel
theorem dX9_bestCandidate_41 : decode cX9_bestCandidate 41 = .ok (.iload_n 2, 1) := by decide +kernel
theorem dX9_bestCandidate_42 : decode cX9_bestCandidate 42 = .ok (.ifCond .le 33, 3) := by decide +kernel
theorem dX9_bestCandidate_45 : decode cX9_bestCandidate 45 = .ok (.aload_n 0, 1) := by decide +kernel
theorem dX9_bestCandidate_46 : decode cX9_bestCandidate 46 = .ok (.getfield 53, 3) := by decide +kernel
theorem dX9_bestCandidate_49 : decode cX9_bestCandidate 49 = .ok (.iload 4, 2) := by decide +kernel
theorem dX9_bestCandidate_51 : decode cX9_bestCandidate 51 = .ok (.iaload, 1) := by decide +kernel
theorem dX9_bestCandidate_52 : decode cX9_bestCandidate 52 = .ok (.iload_n 3, 1) := by decide +kernel
theorem dX9_bestCandidate_53 : decode cX9_bestCandidate 53 = .ok (.if_icmp .ge 22, 3) := by decide +kernel
theorem dX9_bestCandidate_56 : decode cX9_bestCandidate 56 = .ok (.iload 4, 2) := by decide +kernel
theorem dX9_bestCandidate_58 : decode cX9_bestCandidate 58 = .ok (.istore_n 1, 1) := by decide +kernel
theorem dX9_bestCandidate_59 : decode cX9_bestCandidate 59 = .ok (.aload_n 0, 1) := by decide +kernel
theorem dX9_bestCandidate_60 : decode cX9_bestCandidate 60 = .ok (.getfield 49, 3) := by decide +kernel
theorem dX9_bestCandidate_63 : decode cX9_bestCandidate 63 = .ok (.iload 4, 2) := by decide +kernel
theorem dX9_bestCandidate_65 : decode cX9_bestCandidate 65 = .ok (.iaload, 1) := by decide +kernel
theorem dX9_bestCandidate_66 : decode cX9_bestCandidate 66 = .ok (.istore_n 2, 1) := by decide +kernel
theorem dX9_bestCandidate_67 : decode cX9_bestCandidate 67 = .ok (.aload_n 0, 1) := by decide +kernel
theorem dX9_bestCandidate_68 : decode cX9_bestCandidate 68 = .ok (.getfield 53, 3) := by decide +kernel
theorem dX9_bestCandidate_71 : decode cX9_bestCandidate 71 = .ok (.iload 4, 2) := by decide +kernel
theorem dX9_bestCandidate_73 : decode cX9_bestCandidate 73 = .ok (.iaload, 1) := by decide +kernel
theorem dX9_bestCandidate_74 : decode cX9_bestCandidate 74 = .ok (.istore_n 3, 1) := by decide +kernel
theorem dX9_bestCandidate_75 : decode cX9_bestCandidate 75 = .ok (.iinc 4 1, 3) := by decide +kernel
theorem dX9_bestCandidate_78 : decode cX9_bestCandidate 78 = .ok (.goto (-69), 3) := by decide +kernel
theorem dX9_bestCandidate_81 : decode cX9_bestCandidate 81 = .ok (.iload_n 1, 1) := by decide +kernel
theorem dX9_bestCandidate_82 : decode cX9_bestCandidate 82 = .ok (.ireturn, 1) := by decide +kernel
theorem dX9_classOf_0 : decode cX9_classOf 0 = .ok (.aload_n 0, 1) := by decide +kernel
theorem dX9_classOf_1 : decode cX9_classOf 1 = .ok (.aload_n 0, 1) := by decide +kernel
theorem dX9_classOf_2 : decode cX9_classOf 2 = .ok (.iload_n 1, 1) := by decide +kernel
theorem dX9_classOf_3 : decode cX9_classOf 3 = .ok (.invokevirtual 182, 3) := by decide +kernel
theorem dX9_classOf_6 : decode cX9_classOf 6 = .ok (.invokevirtual 362, 3) := by decide +kernel
theorem dX9_classOf_9 : decode cX9_classOf 9 = .ok (.pop, 1) := by decide +kernel
theorem dX9_classOf_10 : decode cX9_classOf 10 = .ok (.iload_n 2, 1) := by decide +kernel
theorem dX9_classOf_11 : decode cX9_classOf 11 = .ok (.ifCond .lt 21, 3) := by decide +kernel
theorem dX9_classOf_14 : decode cX9_classOf 14 = .ok (.iload_n 2, 1) := by decide +kernel
theorem dX9_classOf_15 : decode cX9_classOf 15 = .ok (.aload_n 0, 1) := by decide +kernel
theorem dX9_classOf_16 : decode cX9_classOf 16 = .ok (.getfield 59, 3) := by decide +kernel
theorem dX9_classOf_19 : decode cX9_classOf 19 = .ok (.arraylength, 1) := by decide +kernel
theorem dX9_classOf_20 : decode cX9_classOf 20 = .ok (.if_icmp .ge 12, 3) := by decide +kernel
theorem dX9_classOf_23 : decode cX9_classOf 23 = .ok (.aload_n 0, 1) := by decide +kernel
theorem dX9_classOf_24 : decode cX9_classOf 24 = .ok (.getfield 59, 3) := by decide +kernel
theorem dX9_classOf_27 : decode cX9_classOf 27 = .ok (.iload_n 2, 1) := by decide +kernel
theorem dX9_classOf_28 : decode cX9_classOf 28 = .ok (.iaload, 1) := by decide +kernel
theorem dX9_classOf_29 : decode cX9_classOf 29 = .ok (.goto 4, 3) := by decide +kernel
theorem dX9_classOf_32 : decode cX9_classOf 32 = .ok (.iconst 0, 1) := by decide +kernel
theorem dX9_classOf_33 : decode cX9_classOf 33 = .ok (.ireturn, 1) := by decide +kernel
theorem dX9_fillClasses_0 : decode cX9_fillClasses 0 = .ok (.iconst 0, 1) := by decide +kernel
theorem dX9_fillClasses_1 : decode cX9_fillClasses 1 = .ok (.istore_n 2, 1) := by decide +kernel
theorem dX9_fillClasses_2 : decode cX9_fillClasses 2 = .ok (.iconst 0, 1) := by decide +kernel
theorem dX9_fillClasses_3 : decode cX9_fillClasses 3 = .ok (.istore_n 3, 1) := by decide +kernel
theorem dX9_fillClasses_4 : decode cX9_fillClasses 4 = .ok (.iload_n 3, 1) := by decide +kernel
theorem dX9_fillClasses_5 : decode cX9_fillClasses 5 = .ok (.aload_n 1, 1) := by decide +kernel
theorem dX9_fillClasses_6 : decode cX9_fillClasses 6 = .ok (.getfield 186, 3) := by decide +kernel
theorem dX9_fillClasses_9 : decode cX9_fillClasses 9 = .ok (.if_icmp .ge 91, 3) := by decide +kernel
theorem dX9_fillClasses_12 : decode cX9_fillClasses 12 = .ok (.iload_n 3, 1) := by decide +kernel
theorem dX9_fillClasses_13 : decode cX9_fillClasses 13 = .ok (.bipush 10, 2) := by decide +kernel
theorem dX9_fillClasses_15 : decode cX9_fillClasses 15 = .ok (.if_icmp .ge 85, 3) := by decide +kernel
theorem dX9_fillClasses_18 : decode cX9_fillClasses 18 = .ok (.aload_n 1, 1) := by decide +kernel
theorem dX9_fillClasses_19 : decode cX9_fillClasses 19 = .ok (.iload_n 3, 1) := by decide +kernel
theorem dX9_fillClasses_20 : decode cX9_fillClasses 20 = .ok (.invokevirtual 391, 3) := by decide +kernel
theorem dX9_fillClasses_23 : decode cX9_fillClasses 23 = .ok (.astore 4, 2) := by decide +kernel
theorem dX9_fillClasses_25 : decode cX9_fillClasses 25 = .ok (.aload 4, 2) := by decide +kernel
theorem dX9_fillClasses_27 : decode cX9_fillClasses 27 = .ok (.ifnull 67, 3) := by decide +kernel
theorem dX9_fillClasses_30 : decode cX9_fillClasses 30 = .ok (.aload_n 0, 1) := by decide +kernel
theorem dX9_fillClasses_31 : decode cX9_fillClasses 31 = .ok (.getfield 56, 3) := by decide +kernel
theorem dX9_fillClasses_34 : decode cX9_fillClasses 34 = .ok (.iload_n 3, 1) := by decide +kernel
theorem dX9_fillClasses_35 : decode cX9_fillClasses 35 = .ok (.aload_n 0, 1) := by decide +kernel
theorem dX9_fillClasses_36 : decode cX9_fillClasses 36 = .ok (.getfield 65, 3) := by decide +kernel
theorem dX9_fillClasses_39 : decode cX9_fillClasses 39 = .ok (.aload 4, 2) := by decide +kernel
theorem dX9_fillClasses_41 : decode cX9_fillClasses 41 = .ok (.getfield 262, 3) := by decide +kernel
theorem dX9_fillClasses_44 : decode cX9_fillClasses 44 = .ok (.invokevirtual 270, 3) := by decide +kernel
theorem dX9_fillClasses_47 : decode cX9_fillClasses 47 = .ok (.iastore, 1) := by decide +kernel
theorem dX9_fillClasses_48 : decode cX9_fillClasses 48 = .ok (.aload_n 0, 1) := by decide +kernel
theorem dX9_fillClasses_49 : decode cX9_fillClasses 49 = .ok (.aload_n 1, 1) := by decide +kernel
theorem dX9_fillClasses_50 : decode cX9_fillClasses 50 = .ok (.aload 4, 2) := by decide +kernel
theorem dX9_fillClasses_52 : decode cX9_fillClasses 52 = .ok (.iload_n 3, 1) := by decide +kernel
theorem dX9_fillClasses_53 : decode cX9_fillClasses 53 = .ok (.invokevirtual 423, 3) := by decide +kernel
theorem dX9_fillClasses_56 : decode cX9_fillClasses 56 = .ok (.istore 5, 2) := by decide +kernel
theorem dX9_fillClasses_58 : decode cX9_fillClasses 58 = .ok (.aload_n 0, 1) := by decide +kernel
theorem dX9_fillClasses_59 : decode cX9_fillClasses 59 = .ok (.getfield 59, 3) := by decide +kernel
theorem dX9_fillClasses_62 : decode cX9_fillClasses 62 = .ok (.iload_n 3, 1) := by decide +kernel
theorem dX9_fillClasses_63 : decode cX9_fillClasses 63 = .ok (.iload 5, 2) := by decide +kernel
theorem dX9_fillClasses_65 : decode cX9_fillClasses 65 = .ok (.iconst (-1), 1) := by decide +kernel
theorem dX9_fillClasses_66 : decode cX9_fillClasses 66 = .ok (.if_icmp .ne 7, 3) := by decide +kernel
theorem dX9_fillClasses_69 : decode cX9_fillClasses 69 = .ok (.iload_n 2, 1) := by decide +kernel
theorem dX9_fillClasses_70 : decode cX9_fillClasses 70 = .ok (.goto 10, 3) := by decide +kernel
theorem dX9_fillClasses_73 : decode cX9_fillClasses 73 = .ok (.aload_n 0, 1) := by decide +kernel
theorem dX9_fillClasses_74 : decode cX9_fillClasses 74 = .ok (.getfield 59, 3) := by decide +kernel
theorem dX9_fillClasses_77 : decode cX9_fillClasses 77 = .ok (.iload 5, 2) := by decide +kernel
theorem dX9_fillClasses_79 : decode cX9_fillClasses 79 = .ok (.iaload, 1) := by decide +kernel
theorem dX9_fillClasses_80 : decode cX9_fillClasses 80 = .ok (.iastore, 1) := by decide +kernel
theorem dX9_fillClasses_81 : decode cX9_fillClasses 81 = .ok (.iload_n 2, 1) := by decide +kernel
theorem dX9_fillClasses_82 : decode cX9_fillClasses 82 = .ok (.aload_n 0, 1) := by decide +kernel
theorem dX9_fillClasses_83 : decode cX9_fillClasses 83 = .ok (.getfield 59, 3) := by decide +kernel
theorem dX9_fillClasses_86 : decode cX9_fillClasses 86 = .ok (.iload_n 3, 1) := by decide +kernel
theorem dX9_fillClasses_87 : decode cX9_fillClasses 87 = .ok (.iaload, 1) := by decide +kernel
theorem dX9_fillClasses_88 : decode cX9_fillClasses 88 = .ok (.iconst 1, 1) := by decide +kernel
theorem dX9_fillClasses_89 : decode cX9_fillClasses 89 = .ok (.iadd, 1) := by decide +kernel
theorem dX9_fillClasses_90 : decode cX9_fillClasses 90 = .ok (.invokestatic 427, 3) := by decide +kernel
theorem dX9_fillClasses_93 : decode cX9_fillClasses 93 = .ok (.istore_n 2, 1) := by decide +kernel
theorem dX9_fillClasses_94 : decode cX9_fillClasses 94 = .ok (.iinc 3 1, 3) := by decide +kernel
theorem dX9_fillClasses_97 : decode cX9_fillClasses 97 = .ok (.goto (-93), 3) := by decide +kernel
theorem dX9_fillClasses_100 : decode cX9_fillClasses 100 = .ok (.iload_n 2, 1) := by decide +kernel
theorem dX9_fillClasses_101 : decode cX9_fillClasses 101 = .ok (.ireturn, 1) := by decide +kernel
theorem dX9_firstWithSameRhyme_0 : decode cX9_firstWithSameRhyme 0 = .ok (.iconst 0, 1) := by decide +kernel
theorem dX9_firstWithSameRhyme_1 : decode cX9_firstWithSameRhyme 1 = .ok (.istore 4, 2) := by decide +kernel
theorem dX9_firstWithSameRhyme_3 : decode cX9_firstWithSameRhyme 3 = .ok (.iload 4, 2) := by decide +kernel
theorem dX9_firstWithSameRhyme_5 : decode cX9_firstWithSameRhyme 5 = .ok (.iload_n 3, 1) := by decide +kernel
theorem dX9_firstWithSameRhyme_6 : decode cX9_firstWithSameRhyme 6 = .ok (.if_icmp .ge 67, 3) := by decide +kernel
theorem dX9_firstWithSameRhyme_9 : decode cX9_firstWithSameRhyme 9 = .ok (.iload 4, 2) := by decide +kernel
theorem dX9_firstWithSameRhyme_11 : decode cX9_firstWithSameRhyme 11 = .ok (.bipush 10, 2) := by decide +kernel
theorem dX9_firstWithSameRhyme_13 : decode cX9_firstWithSameRhyme 13 = .ok (.if_icmp .ge 60, 3) := by decide +kernel
theorem dX9_firstWithSameRhyme_16 : decode cX9_firstWithSameRhyme 16 = .ok (.aload_n 1, 1) := by decide +kernel
theorem dX9_firstWithSameRhyme_17 : decode cX9_firstWithSameRhyme 17 = .ok (.iload 4, 2) := by decide +kernel
theorem dX9_firstWithSameRhyme_19 : decode cX9_firstWithSameRhyme 19 = .ok (.invokevirtual 391, 3) := by decide +kernel
theorem dX9_firstWithSameRhyme_22 : decode cX9_firstWithSameRhyme 22 = .ok (.astore 5, 2) := by decide +kernel
theorem dX9_firstWithSameRhyme_24 : decode cX9_firstWithSameRhyme 24 = .ok (.aload 5, 2) := by decide +kernel
theorem dX9_firstWithSameRhyme_26 : decode cX9_firstWithSameRhyme 26 = .ok (.ifnull 41, 3) := by decide +kernel
theorem dX9_firstWithSameRhyme_29 : decode cX9_firstWithSameRhyme 29 = .ok (.iload_n 3, 1) := by decide +kernel
theorem dX9_firstWithSameRhyme_30 : decode cX9_firstWithSameRhyme 30 = .ok (.bipush 10, 2) := by decide +kernel
theorem dX9_firstWithSameRhyme_32 : decode cX9_firstWithSameRhyme 32 = .ok (.if_icmp .ge 35, 3) := by decide +kernel
theorem dX9_firstWithSameRhyme_35 : decode cX9_firstWithSameRhyme 35 = .ok (.aload 5, 2) := by decide +kernel
theorem dX9_firstWithSameRhyme_37 : decode cX9_firstWithSameRhyme 37 = .ok (.getfield 262, 3) := by decide +kernel
theorem dX9_firstWithSameRhyme_40 : decode cX9_firstWithSameRhyme 40 = .ok (.aload_n 0, 1) := by decide +kernel
theorem dX9_firstWithSameRhyme_41 : decode cX9_firstWithSameRhyme 41 = .ok (.getfield 56, 3) := by decide +kernel
theorem dX9_firstWithSameRhyme_44 : decode cX9_firstWithSameRhyme 44 = .ok (.iload 4, 2) := by decide +kernel
theorem dX9_firstWithSameRhyme_46 : decode cX9_firstWithSameRhyme 46 = .ok (.iaload, 1) := by decide +kernel
theorem dX9_firstWithSameRhyme_47 : decode cX9_firstWithSameRhyme 47 = .ok (.aload_n 2, 1) := by decide +kernel
theorem dX9_firstWithSameRhyme_48 : decode cX9_firstWithSameRhyme 48 = .ok (.getfield 262, 3) := by decide +kernel
theorem dX9_firstWithSameRhyme_51 : decode cX9_firstWithSameRhyme 51 = .ok (.aload_n 0, 1) := by decide +kernel
theorem dX9_firstWithSameRhyme_52 : decode cX9_firstWithSameRhyme 52 = .ok (.getfield 56, 3) := by decide +kernel
theorem dX9_firstWithSameRhyme_55 : decode cX9_firstWithSameRhyme 55 = .ok (.iload_n 3, 1) := by decide +kernel
theorem dX9_firstWithSameRhyme_56 : decode cX9_firstWithSameRhyme 56 = .ok (.iaload, 1) := by decide +kernel
theorem dX9_firstWithSameRhyme_57 : decode cX9_firstWithSameRhyme 57 = .ok (.invokestatic 306, 3) := by decide +kernel
theorem dX9_firstWithSameRhyme_60 : decode cX9_firstWithSameRhyme 60 = .ok (.iconst 2, 1) := by decide +kernel
theorem dX9_firstWithSameRhyme_61 : decode cX9_firstWithSameRhyme 61 = .ok (.if_icmp .lt 6, 3) := by decide +kernel
theorem dX9_firstWithSameRhyme_64 : decode cX9_firstWithSameRhyme 64 = .ok (.iload 4, 2) := by decide +kernel
theorem dX9_firstWithSameRhyme_66 : decode cX9_firstWithSameRhyme 66 = .ok (.ireturn, 1) := by decide +kernel
theorem dX9_firstWithSameRhyme_67 : decode cX9_firstWithSameRhyme 67 = .ok (.iinc 4 1, 3) := by decide +kernel
theorem dX9_firstWithSameRhyme_70 : decode cX9_firstWithSameRhyme 70 = .ok (.goto (-67), 3) := by decide +kernel
theorem dX9_firstWithSameRhyme_73 : decode cX9_firstWithSameRhyme 73 = .ok (.iconst (-1), 1) := by decide +kernel
theorem dX9_firstWithSameRhyme_74 : decode cX9_firstWithSameRhyme 74 = .ok (.ireturn, 1) := by decide +kernel
theorem dX9_distance_0 : decode cX9_distance 0 = .ok (.aload_n 2, 1) := by decide +kernel
theorem dX9_distance_1 : decode cX9_distance 1 = .ok (.getfield 186, 3) := by decide +kernel
theorem dX9_distance_4 : decode cX9_distance 4 = .ok (.bipush 10, 2) := by decide +kernel
theorem dX9_distance_6 : decode cX9_distance 6 = .ok (.invokestatic 430, 3) := by decide +kernel
theorem dX9_distance_9 : decode cX9_distance 9 = .ok (.istore_n 3, 1) := by decide +kernel
theorem dX9_distance_10 : decode cX9_distance 10 = .ok (.iconst 0, 1) := by decide +kernel
theorem dX9_distance_11 : decode cX9_distance 11 = .ok (.istore 4, 2) := by decide +kernel
theorem dX9_distance_13 : decode cX9_distance 13 = .ok (.iload 4, 2) := by decide +kernel
theorem dX9_distance_15 : decode cX9_distance 15 = .ok (.iload_n 3, 1) := by decide +kernel
theorem dX9_distance_16 : decode cX9_distance 16 = .ok (.if_icmp .gt 20, 3) := by decide +kernel
theorem dX9_distance_19 : decode cX9_distance 19 = .ok (.aload_n 0, 1) := by decide +kernel
theorem dX9_distance_20 : decode cX9_distance 20 = .ok (.getfield 62, 3) := by decide +kernel
theorem dX9_distance_23 : decode cX9_distance 23 = .ok (.iload 4, 2) := by decide +kernel
theorem dX9_distance_25 : decode cX9_distance 25 = .ok (.iconst 3, 1) := by decide +kernel
theorem dX9_distance_26 : decode cX9_distance 26 = .ok (.iload 4, 2) := by decide +kernel
theorem dX9_distance_28 : decode cX9_distance 28 = .ok (.imul, 1) := by decide +kernel
theorem dX9_distance_29 : decode cX9_distance 29 = .ok (.iastore, 1) := by decide +kernel
theorem dX9_distance_30 : decode cX9_distance 30 = .ok (.iinc 4 1, 3) := by decide +kernel
theorem dX9_distance_33 : decode cX9_distance 33 = .ok (.goto (-20), 3) := by decide +kernel
theorem dX9_distance_36 : decode cX9_distance 36 = .ok (.iconst 0, 1) := by decide +kernel
theorem dX9_distance_37 : decode cX9_distance 37 = .ok (.istore 4, 2) := by decide +kernel
theorem dX9_distance_39 : decode cX9_distance 39 = .ok (.iload 4, 2) := by decide +kernel
theorem dX9_distance_41 : decode cX9_distance 41 = .ok (.aload_n 1, 1) := by decide +kernel
theorem dX9_distance_42 : decode cX9_distance 42 = .ok (.getfield 186, 3) := by decide +kernel
theorem dX9_distance_45 : decode cX9_distance 45 = .ok (.if_icmp .ge 114, 3) := by decide +kernel
theorem dX9_distance_48 : decode cX9_distance 48 = .ok (.aload_n 0, 1) := by decide +kernel
theorem dX9_distance_49 : decode cX9_distance 49 = .ok (.getfield 62, 3) := by decide +kernel
theorem dX9_distance_52 : decode cX9_distance 52 = .ok (.iconst 0, 1) := by decide +kernel
theorem dX9_distance_53 : decode cX9_distance 53 = .ok (.iaload, 1) := by decide +kernel
theorem dX9_distance_54 : decode cX9_distance 54 = .ok (.istore 5, 2) := by decide +kernel
theorem dX9_distance_56 : decode cX9_distance 56 = .ok (.aload_n 0, 1) := by decide +kernel
theorem dX9_distance_57 : decode cX9_distance 57 = .ok (.getfield 62, 3) := by decide +kernel
theorem dX9_distance_60 : decode cX9_distance 60 = .ok (.iconst 0, 1) := by decide +kernel
theorem dX9_distance_61 : decode cX9_distance 61 = .ok (.iconst 3, 1) := by decide +kernel
theorem dX9_distance_62 : decode cX9_distance 62 = .ok (.iload 4, 2) := by decide +kernel
theorem dX9_distance_64 : decode cX9_distance 64 = .ok (.iconst 1, 1) := by decide +kernel
theorem dX9_distance_65 : decode cX9_distance 65 = .ok (.iadd, 1) := by decide +kernel
theorem dX9_distance_66 : decode cX9_distance 66 = .ok (.imul, 1) := by decide +kernel
theorem dX9_distance_67 : decode cX9_distance 67 = .ok (.iastore, 1) := by decide +kernel
theorem dX9_distance_68 : decode cX9_distance 68 = .ok (.iconst 0, 1) := by decide +kernel
theorem dX9_distance_69 : decode cX9_distance 69 = .ok (.istore 6, 2) := by decide +kernel
theorem dX9_distance_71 : decode cX9_distance 71 = .ok (.iload 6, 2) := by decide +kernel
theorem dX9_distance_73 : decode cX9_distance 73 = .ok (.iload_n 3, 1) := by decide +kernel
theorem dX9_distance_74 : decode cX9_distance 74 = .ok (.if_icmp .ge 79, 3) := by decide +kernel
theorem dX9_distance_77 : decode cX9_distance 77 = .ok (.iload 5, 2) := by decide +kernel
theorem dX9_distance_79 : decode cX9_distance 79 = .ok (.aload_n 1, 1) := by decide +kernel
theorem dX9_distance_80 : decode cX9_distance 80 = .ok (.iload 4, 2) := by decide +kernel
theorem dX9_distance_82 : decode cX9_distance 82 = .ok (.invokevirtual 391, 3) := by decide +kernel
theorem dX9_distance_85 : decode cX9_distance 85 = .ok (.aload_n 2, 1) := by decide +kernel
theorem dX9_distance_86 : decode cX9_distance 86 = .ok (.iload 6, 2) := by decide +kernel
theorem dX9_distance_88 : decode cX9_distance 88 = .ok (.invokevirtual 391, 3) := by decide +kernel
theorem dX9_distance_91 : decode cX9_distance 91 = .ok (.invokestatic 433, 3) := by decide +kernel
theorem dX9_distance_94 : decode cX9_distance 94 = .ok (.iadd, 1) := by decide +kernel
theorem dX9_distance_95 : decode cX9_distance 95 = .ok (.istore 7, 2) := by decide +kernel
theorem dX9_distance_97 : decode cX9_distance 97 = .ok (.aload_n 0, 1) := by decide +kernel
theorem dX9_distance_98 : decode cX9_distance 98 = .ok (.getfield 62, 3) := by decide +kernel
theorem dX9_distance_101 : decode cX9_distance 101 = .ok (.iload 6, 2) := by decide +kernel
theorem dX9_distance_103 : decode cX9_distance 103 = .ok (.iaload, 1) := by decide +kernel
theorem dX9_distance_104 : decode cX9_distance 104 = .ok (.aload_n 0, 1) := by decide +kernel
theorem dX9_distance_105 : decode cX9_distance 105 = .ok (.getfield 62, 3) := by decide +kernel
theorem dX9_distance_108 : decode cX9_distance 108 = .ok (.iload 6, 2) := by decide +kernel
theorem dX9_distance_110 : decode cX9_distance 110 = .ok (.iconst 1, 1) := by decide +kernel
theorem dX9_distance_111 : decode cX9_distance 111 = .ok (.iadd, 1) := by decide +kernel
theorem dX9_distance_112 : decode cX9_distance 112 = .ok (.iaload, 1) := by decide +kernel
theorem dX9_distance_113 : decode cX9_distance 113 = .ok (.invokestatic 430, 3) := by decide +kernel
theorem dX9_distance_116 : decode cX9_distance 116 = .ok (.iconst 3, 1) := by decide +kernel
theorem dX9_distance_117 : decode cX9_distance 117 = .ok (.iadd, 1) := by decide +kernel
theorem dX9_distance_118 : decode cX9_distance 118 = .ok (.istore 8, 2) := by decide +kernel
theorem dX9_distance_120 : decode cX9_distance 120 = .ok (.aload_n 0, 1) := by decide +kernel
theorem dX9_distance_121 : decode cX9_distance 121 = .ok (.getfield 62, 3) := by decide +kernel
theorem dX9_distance_124 : decode cX9_distance 124 = .ok (.iload 6, 2) := by decide +kernel
theorem dX9_distance_126 : decode cX9_distance 126 = .ok (.iconst 1, 1) := by decide +kernel
theorem dX9_distance_127 : decode cX9_distance 127 = .ok (.iadd, 1) := by decide +kernel
theorem dX9_distance_128 : decode cX9_distance 128 = .ok (.iaload, 1) := by decide +kernel
theorem dX9_distance_129 : decode cX9_distance 129 = .ok (.istore 5, 2) := by decide +kernel
theorem dX9_distance_131 : decode cX9_distance 131 = .ok (.aload_n 0, 1) := by decide +kernel
theorem dX9_distance_132 : decode cX9_distance 132 = .ok (.getfield 62, 3) := by decide +kernel
theorem dX9_distance_135 : decode cX9_distance 135 = .ok (.iload 6, 2) := by decide +kernel
theorem dX9_distance_137 : decode cX9_distance 137 = .ok (.iconst 1, 1) := by decide +kernel
theorem dX9_distance_138 : decode cX9_distance 138 = .ok (.iadd, 1) := by decide +kernel
theorem dX9_distance_139 : decode cX9_distance 139 = .ok (.iload 7, 2) := by decide +kernel
theorem dX9_distance_141 : decode cX9_distance 141 = .ok (.iload 8, 2) := by decide +kernel
theorem dX9_distance_143 : decode cX9_distance 143 = .ok (.invokestatic 430, 3) := by decide +kernel
theorem dX9_distance_146 : decode cX9_distance 146 = .ok (.iastore, 1) := by decide +kernel
theorem dX9_distance_147 : decode cX9_distance 147 = .ok (.iinc 6 1, 3) := by decide +kernel
theorem dX9_distance_150 : decode cX9_distance 150 = .ok (.goto (-79), 3) := by decide +kernel
theorem dX9_distance_153 : decode cX9_distance 153 = .ok (.iinc 4 1, 3) := by decide +kernel
theorem dX9_distance_156 : decode cX9_distance 156 = .ok (.goto (-117), 3) := by decide +kernel
theorem dX9_distance_159 : decode cX9_distance 159 = .ok (.aload_n 0, 1) := by decide +kernel
theorem dX9_distance_160 : decode cX9_distance 160 = .ok (.getfield 62, 3) := by decide +kernel
theorem dX9_distance_163 : decode cX9_distance 163 = .ok (.iload_n 3, 1) := by decide +kernel
theorem dX9_distance_164 : decode cX9_distance 164 = .ok (.iaload, 1) := by decide +kernel
theorem dX9_distance_165 : decode cX9_distance 165 = .ok (.ireturn, 1) := by decide +kernel
theorem dX9_lineDifference_0 : decode cX9_lineDifference 0 = .ok (.aload_n 0, 1) := by decide +kernel
theorem dX9_lineDifference_1 : decode cX9_lineDifference 1 = .ok (.ifnull 7, 3) := by decide +kernel
theorem dX9_lineDifference_4 : decode cX9_lineDifference 4 = .ok (.aload_n 1, 1) := by decide +kernel
theorem dX9_lineDifference_5 : decode cX9_lineDifference 5 = .ok (.ifnonnull 5, 3) := by decide +kernel
theorem dX9_lineDifference_8 : decode cX9_lineDifference 8 = .ok (.iconst 5, 1) := by decide +kernel
theorem dX9_lineDifference_9 : decode cX9_lineDifference 9 = .ok (.ireturn, 1) := by decide +kernel
theorem dX9_lineDifference_10 : decode cX9_lineDifference 10 = .ok (.iconst 0, 1) := by decide +kernel
theorem dX9_lineDifference_11 : decode cX9_lineDifference 11 = .ok (.istore_n 2, 1) := by decide +kernel
theorem dX9_lineDifference_12 : decode cX9_lineDifference 12 = .ok (.iconst 0, 1) := by decide +kernel
theorem dX9_lineDifference_13 : decode cX9_lineDifference 13 = .ok (.istore_n 3, 1) := by decide +kernel
theorem dX9_lineDifference_14 : decode cX9_lineDifference 14 = .ok (.iload_n 3, 1) := by decide +kernel
theorem dX9_lineDifference_15 : decode cX9_lineDifference 15 = .ok (.aload_n 0, 1) := by decide +kernel
theorem dX9_lineDifference_16 : decode cX9_lineDifference 16 = .ok (.getfield 203, 3) := by decide +kernel
theorem dX9_lineDifference_19 : decode cX9_lineDifference 19 = .ok (.aload_n 1, 1) := by decide +kernel
theorem dX9_lineDifference_20 : decode cX9_lineDifference 20 = .ok (.getfield 203, 3) := by decide +kernel
theorem dX9_lineDifference_23 : decode cX9_lineDifference 23 = .ok (.invokestatic 427, 3) := by decide +kernel
theorem dX9_lineDifference_26 : decode cX9_lineDifference 26 = .ok (.if_icmp .ge 46, 3) := by decide +kernel
theorem dX9_lineDifference_29 : decode cX9_lineDifference 29 = .ok (.aload_n 0, 1) := by decide +kernel
theorem dX9_lineDifference_30 : decode cX9_lineDifference 30 = .ok (.iload_n 3, 1) := by decide +kernel
theorem dX9_lineDifference_31 : decode cX9_lineDifference 31 = .ok (.invokevirtual 275, 3) := by decide +kernel
theorem dX9_lineDifference_34 : decode cX9_lineDifference 34 = .ok (.astore 4, 2) := by decide +kernel
theorem dX9_lineDifference_36 : decode cX9_lineDifference 36 = .ok (.aload_n 1, 1) := by decide +kernel
theorem dX9_lineDifference_37 : decode cX9_lineDifference 37 = .ok (.iload_n 3, 1) := by decide +kernel
theorem dX9_lineDifference_38 : decode cX9_lineDifference 38 = .ok (.invokevirtual 275, 3) := by decide +kernel
theorem dX9_lineDifference_41 : decode cX9_lineDifference 41 = .ok (.astore 5, 2) := by decide +kernel
theorem dX9_lineDifference_43 : decode cX9_lineDifference 43 = .ok (.aload 4, 2) := by decide +kernel
theorem dX9_lineDifference_45 : decode cX9_lineDifference 45 = .ok (.ifnull 18, 3) := by decide +kernel
theorem dX9_lineDifference_48 : decode cX9_lineDifference 48 = .ok (.aload 5, 2) := by decide +kernel
theorem dX9_lineDifference_50 : decode cX9_lineDifference 50 = .ok (.ifnull 13, 3) := by decide +kernel
theorem dX9_lineDifference_53 : decode cX9_lineDifference 53 = .ok (.aload 4, 2) := by decide +kernel
theorem dX9_lineDifference_55 : decode cX9_lineDifference 55 = .ok (.aload 5, 2) := by decide +kernel
theorem dX9_lineDifference_57 : decode cX9_lineDifference 57 = .ok (.invokevirtual 437, 3) := by decide +kernel
theorem dX9_lineDifference_60 : decode cX9_lineDifference 60 = .ok (.ifCond .ne 6, 3) := by decide +kernel
theorem dX9_lineDifference_63 : decode cX9_lineDifference 63 = .ok (.iinc 2 1, 3) := by decide +kernel
theorem dX9_lineDifference_66 : decode cX9_lineDifference 66 = .ok (.iinc 3 1, 3) := by decide +kernel
theorem dX9_lineDifference_69 : decode cX9_lineDifference 69 = .ok (.goto (-55), 3) := by decide +kernel
theorem dX9_lineDifference_72 : decode cX9_lineDifference 72 = .ok (.iload_n 2, 1) := by decide +kernel
theorem dX9_lineDifference_73 : decode cX9_lineDifference 73 = .ok (.iconst 5, 1) := by decide +kernel
theorem dX9_lineDifference_74 : decode cX9_lineDifference 74 = .ok (.invokestatic 430, 3) := by decide +kernel
theorem dX9_lineDifference_77 : decode cX9_lineDifference 77 = .ok (.ireturn, 1) := by decide +kernel
theorem dX9_rhymeKind_0 : decode cX9_rhymeKind 0 = .ok (.aload_n 0, 1) := by decide +kernel
theorem dX9_rhymeKind_1 : decode cX9_rhymeKind 1 = .ok (.aload_n 2, 1) := by decide +kernel
theorem dX9_rhymeKind_2 : decode cX9_rhymeKind 2 = .ok (.invokevirtual 437, 3) := by decide +kernel
theorem dX9_rhymeKind_5 : decode cX9_rhymeKind 5 = .ok (.ifCond .eq 5, 3) := by decide +kernel
theorem dX9_rhymeKind_8 : decode cX9_rhymeKind 8 = .ok (.iconst 3, 1) := by decide +kernel
theorem dX9_rhymeKind_9 : decode cX9_rhymeKind 9 = .ok (.ireturn, 1) := by decide +kernel
theorem dX9_rhymeKind_10 : decode cX9_rhymeKind 10 = .ok (.aload_n 0, 1) := by decide +kernel
theorem dX9_rhymeKind_11 : decode cX9_rhymeKind 11 = .ok (.iload_n 1, 1) := by decide +kernel
theorem dX9_rhymeKind_12 : decode cX9_rhymeKind 12 = .ok (.aload_n 2, 1) := by decide +kernel
theorem dX9_rhymeKind_13 : decode cX9_rhymeKind 13 = .ok (.iload_n 3, 1) := by decide +kernel
theorem dX9_rhymeKind_14 : decode cX9_rhymeKind 14 = .ok (.invokestatic 441, 3) := by decide +kernel
theorem dX9_rhymeKind_17 : decode cX9_rhymeKind 17 = .ok (.ifCond .eq 5, 3) := by decide +kernel
theorem dX9_rhymeKind_20 : decode cX9_rhymeKind 20 = .ok (.iconst 2, 1) := by decide +kernel
theorem dX9_rhymeKind_21 : decode cX9_rhymeKind 21 = .ok (.ireturn, 1) := by decide +kernel
theorem dX9_rhymeKind_22 : decode cX9_rhymeKind 22 = .ok (.aload_n 0, 1) := by decide +kernel
theorem dX9_rhymeKind_23 : decode cX9_rhymeKind 23 = .ok (.iload_n 1, 1) := by decide +kernel
theorem dX9_rhymeKind_24 : decode cX9_rhymeKind 24 = .ok (.invokevirtual 445, 3) := by decide +kernel
theorem dX9_rhymeKind_27 : decode cX9_rhymeKind 27 = .ok (.aload_n 2, 1) := by decide +kernel
theorem dX9_rhymeKind_28 : decode cX9_rhymeKind 28 = .ok (.iload_n 3, 1) := by decide +kernel
theorem dX9_rhymeKind_29 : decode cX9_rhymeKind 29 = .ok (.invokevirtual 445, 3) := by decide +kernel
theorem dX9_rhymeKind_32 : decode cX9_rhymeKind 32 = .ok (.lcmp, 1) := by decide +kernel
theorem dX9_rhymeKind_33 : decode cX9_rhymeKind 33 = .ok (.ifCond .ne 7, 3) := by decide +kernel
theorem dX9_rhymeKind_36 : decode cX9_rhymeKind 36 = .ok (.iconst 1, 1) := by decide +kernel
theorem dX9_rhymeKind_37 : decode cX9_rhymeKind 37 = .ok (.goto 4, 3) := by decide +kernel
theorem dX9_rhymeKind_40 : decode cX9_rhymeKind 40 = .ok (.iconst 0, 1) := by decide +kernel
theorem dX9_rhymeKind_41 : decode cX9_rhymeKind 41 = .ok (.ireturn, 1) := by decide +kernel
theorem dX9_isSameRhyme_0 : decode cX9_isSameRhyme 0 = .ok (.aload_n 0, 1) := by decide +kernel
theorem dX9_isSameRhyme_1 : decode cX9_isSameRhyme 1 = .ok (.getfield 265, 3) := by decide +kernel
theorem dX9_isSameRhyme_4 : decode cX9_isSameRhyme 4 = .ok (.iload_n 1, 1) := by decide +kernel
theorem dX9_isSameRhyme_5 : decode cX9_isSameRhyme 5 = .ok (.isub, 1) := by decide +kernel
theorem dX9_isSameRhyme_6 : decode cX9_isSameRhyme 6 = .ok (.istore 4, 2) := by decide +kernel
theorem dX9_isSameRhyme_8 : decode cX9_isSameRhyme 8 = .ok (.iload 4, 2) := by decide +kernel
theorem dX9_isSameRhyme_10 : decode cX9_isSameRhyme 10 = .ok (.aload_n 2, 1) := by decide +kernel
theorem dX9_isSameRhyme_11 : decode cX9_isSameRhyme 11 = .ok (.getfield 265, 3) := by decide +kernel
theorem dX9_isSameRhyme_14 : decode cX9_isSameRhyme 14 = .ok (.iload_n 3, 1) := by decide +kernel
theorem dX9_isSameRhyme_15 : decode cX9_isSameRhyme 15 = .ok (.isub, 1) := by decide +kernel
theorem dX9_isSameRhyme_16 : decode cX9_isSameRhyme 16 = .ok (.if_icmp .eq 5, 3) := by decide +kernel
theorem dX9_isSameRhyme_19 : decode cX9_isSameRhyme 19 = .ok (.iconst 0, 1) := by decide +kernel
theorem dX9_isSameRhyme_20 : decode cX9_isSameRhyme 20 = .ok (.ireturn, 1) := by decide +kernel
theorem dX9_isSameRhyme_21 : decode cX9_isSameRhyme 21 = .ok (.iconst 0, 1) := by decide +kernel
theorem dX9_isSameRhyme_22 : decode cX9_isSameRhyme 22 = .ok (.istore 5, 2) := by decide +kernel
theorem dX9_isSameRhyme_24 : decode cX9_isSameRhyme 24 = .ok (.iload 5, 2) := by decide +kernel
theorem dX9_isSameRhyme_26 : decode cX9_isSameRhyme 26 = .ok (.iload 4, 2) := by decide +kernel
theorem dX9_isSameRhyme_28 : decode cX9_isSameRhyme 28 = .ok (.if_icmp .ge 30, 3) := by decide +kernel
theorem dX9_isSameRhyme_31 : decode cX9_isSameRhyme 31 = .ok (.aload_n 0, 1) := by decide +kernel
theorem dX9_isSameRhyme_32 : decode cX9_isSameRhyme 32 = .ok (.iload_n 1, 1) := by decide +kernel
theorem dX9_isSameRhyme_33 : decode cX9_isSameRhyme 33 = .ok (.iload 5, 2) := by decide +kernel
theorem dX9_isSameRhyme_35 : decode cX9_isSameRhyme 35 = .ok (.iadd, 1) := by decide +kernel
theorem dX9_isSameRhyme_36 : decode cX9_isSameRhyme 36 = .ok (.invokevirtual 302, 3) := by decide +kernel
theorem dX9_isSameRhyme_39 : decode cX9_isSameRhyme 39 = .ok (.aload_n 2, 1) := by decide +kernel
theorem dX9_isSameRhyme_40 : decode cX9_isSameRhyme 40 = .ok (.iload_n 3, 1) := by decide +kernel
theorem dX9_isSameRhyme_41 : decode cX9_isSameRhyme 41 = .ok (.iload 5, 2) := by decide +kernel
theorem dX9_isSameRhyme_43 : decode cX9_isSameRhyme 43 = .ok (.iadd, 1) := by decide +kernel
theorem dX9_isSameRhyme_44 : decode cX9_isSameRhyme 44 = .ok (.invokevirtual 302, 3) := by decide +kernel
theorem dX9_isSameRhyme_47 : decode cX9_isSameRhyme 47 = .ok (.if_icmp .eq 5, 3) := by decide +kernel
theorem dX9_isSameRhyme_50 : decode cX9_isSameRhyme 50 = .ok (.iconst 0, 1) := by decide +kernel
theorem dX9_isSameRhyme_51 : decode cX9_isSameRhyme 51 = .ok (.ireturn, 1) := by decide +kernel
theorem dX9_isSameRhyme_52 : decode cX9_isSameRhyme 52 = .ok (.iinc 5 1, 3) := by decide +kernel
theorem dX9_isSameRhyme_55 : decode cX9_isSameRhyme 55 = .ok (.goto (-31), 3) := by decide +kernel
theorem dX9_isSameRhyme_58 : decode cX9_isSameRhyme 58 = .ok (.iconst 1, 1) := by decide +kernel
theorem dX9_isSameRhyme_59 : decode cX9_isSameRhyme 59 = .ok (.ireturn, 1) := by decide +kernel
theorem dX9_isVowel_0 : decode cX9_isVowel 0 = .ok (.ldc_w 449, 3) := by decide +kernel
theorem dX9_isVowel_3 : decode cX9_isVowel 3 = .ok (.iload_n 0, 1) := by decide +kernel
theorem dX9_isVowel_4 : decode cX9_isVowel 4 = .ok (.invokevirtual 451, 3) := by decide +kernel
theorem dX9_isVowel_7 : decode cX9_isVowel 7 = .ok (.ifCond .lt 7, 3) := by decide +kernel
theorem dX9_isVowel_10 : decode cX9_isVowel 10 = .ok (.iconst 1, 1) := by decide +kernel
theorem dX9_isVowel_11 : decode cX9_isVowel 11 = .ok (.goto 4, 3) := by decide +kernel
theorem dX9_isVowel_14 : decode cX9_isVowel 14 = .ok (.iconst 0, 1) := by decide +kernel
theorem dX9_isVowel_15 : decode cX9_isVowel 15 = .ok (.ireturn, 1) := by decide +kernel
theorem dX9_syllablesOf_0 : decode cX9_syllablesOf 0 = .ok (.aload_n 1, 1) := by decide +kernel
theorem dX9_syllablesOf_1 : decode cX9_syllablesOf 1 = .ok (.ifnonnull 10, 3) := by decide +kernel
theorem dX9_syllablesOf_4 : decode cX9_syllablesOf 4 = .ok (.aload_n 0, 1) := by decide +kernel
theorem dX9_syllablesOf_5 : decode cX9_syllablesOf 5 = .ok (.getfield 284, 3) := by decide +kernel
theorem dX9_syllablesOf_8 : decode cX9_syllablesOf 8 = .ok (.goto 7, 3) := by decide +kernel
theorem dX9_syllablesOf_11 : decode cX9_syllablesOf 11 = .ok (.aload_n 1, 1) := by decide +kernel
theorem dX9_syllablesOf_12 : decode cX9_syllablesOf 12 = .ok (.getfield 179, 3) := by decide +kernel
theorem dX9_syllablesOf_15 : decode cX9_syllablesOf 15 = .ok (.ireturn, 1) := by decide +kernel
theorem dX9_markOf_0 : decode cX9_markOf 0 = .ok (.aload_n 1, 1) := by decide +kernel
theorem dX9_markOf_1 : decode cX9_markOf 1 = .ok (.ifnull 9, 3) := by decide +kernel
theorem dX9_markOf_4 : decode cX9_markOf 4 = .ok (.aload_n 1, 1) := by decide +kernel
theorem dX9_markOf_5 : decode cX9_markOf 5 = .ok (.iload_n 2, 1) := by decide +kernel
theorem dX9_markOf_6 : decode cX9_markOf 6 = .ok (.invokevirtual 456, 3) := by decide +kernel
theorem dX9_markOf_9 : decode cX9_markOf 9 = .ok (.ireturn, 1) := by decide +kernel
theorem dX9_markOf_10 : decode cX9_markOf 10 = .ok (.aload_n 0, 1) := by decide +kernel
theorem dX9_markOf_11 : decode cX9_markOf 11 = .ok (.getfield 284, 3) := by decide +kernel
theorem dX9_markOf_14 : decode cX9_markOf 14 = .ok (.iconst 1, 1) := by decide +kernel
theorem dX9_markOf_15 : decode cX9_markOf 15 = .ok (.if_icmp .ne 5, 3) := by decide +kernel
theorem dX9_markOf_18 : decode cX9_markOf 18 = .ok (.iconst 1, 1) := by decide +kernel
theorem dX9_markOf_19 : decode cX9_markOf 19 = .ok (.ireturn, 1) := by decide +kernel
theorem dX9_markOf_20 : decode cX9_markOf 20 = .ok (.iconst 0, 1) := by decide +kernel
theorem dX9_markOf_21 : decode cX9_markOf 21 = .ok (.aload_n 0, 1) := by decide +kernel
theorem dX9_markOf_22 : decode cX9_markOf 22 = .ok (.getfield 284, 3) := by decide +kernel
theorem dX9_markOf_25 : decode cX9_markOf 25 = .ok (.iconst 3, 1) := by decide +kernel
theorem dX9_markOf_26 : decode cX9_markOf 26 = .ok (.isub, 1) := by decide +kernel
theorem dX9_markOf_27 : decode cX9_markOf 27 = .ok (.invokestatic 427, 3) := by decide +kernel
theorem dX9_markOf_30 : decode cX9_markOf 30 = .ok (.istore_n 3, 1) := by decide +kernel
theorem dX9_markOf_31 : decode cX9_markOf 31 = .ok (.iload_n 2, 1) := by decide +kernel
theorem dX9_markOf_32 : decode cX9_markOf 32 = .ok (.iload_n 3, 1) := by decide +kernel
theorem dX9_markOf_33 : decode cX9_markOf 33 = .ok (.if_icmp .ne 5, 3) := by decide +kernel
theorem dX9_markOf_36 : decode cX9_markOf 36 = .ok (.iconst 2, 1) := by decide +kernel
theorem dX9_markOf_37 : decode cX9_markOf 37 = .ok (.ireturn, 1) := by decide +kernel
theorem dX9_markOf_38 : decode cX9_markOf 38 = .ok (.iload_n 2, 1) := by decide +kernel
theorem dX9_markOf_39 : decode cX9_markOf 39 = .ok (.iload_n 3, 1) := by decide +kernel
theorem dX9_markOf_40 : decode cX9_markOf 40 = .ok (.isub, 1) := by decide +kernel
theorem dX9_markOf_41 : decode cX9_markOf 41 = .ok (.iconst 1, 1) := by decide +kernel
theorem dX9_markOf_42 : decode cX9_markOf 42 = .ok (.iand, 1) := by decide +kernel
theorem dX9_markOf_43 : decode cX9_markOf 43 = .ok (.ifCond .ne 7, 3) := by decide +kernel
theorem dX9_markOf_46 : decode cX9_markOf 46 = .ok (.iconst 1, 1) := by decide +kernel
theorem dX9_markOf_47 : decode cX9_markOf 47 = .ok (.goto 4, 3) := by decide +kernel
theorem dX9_markOf_50 : decode cX9_markOf 50 = .ok (.iconst 0, 1) := by decide +kernel
theorem dX9_markOf_51 : decode cX9_markOf 51 = .ok (.istore 4, 2) := by decide +kernel
theorem dX9_markOf_53 : decode cX9_markOf 53 = .ok (.iload 4, 2) := by decide +kernel
theorem dX9_markOf_55 : decode cX9_markOf 55 = .ok (.ifCond .eq 7, 3) := by decide +kernel
theorem dX9_markOf_58 : decode cX9_markOf 58 = .ok (.iconst 1, 1) := by decide +kernel
theorem dX9_markOf_59 : decode cX9_markOf 59 = .ok (.goto 4, 3) := by decide +kernel
theorem dX9_markOf_62 : decode cX9_markOf 62 = .ok (.iconst 0, 1) := by decide +kernel
theorem dX9_markOf_63 : decode cX9_markOf 63 = .ok (.ireturn, 1) := by decide +kernel
theorem dX9_marksAsDigits_0 : decode cX9_marksAsDigits 0 = .ok (.iconst 0, 1) := by decide +kernel
theorem dX9_marksAsDigits_1 : decode cX9_marksAsDigits 1 = .ok (.istore_n 2, 1) := by decide +kernel
theorem dX9_marksAsDigits_2 : decode cX9_marksAsDigits 2 = .ok (.iconst 0, 1) := by decide +kernel
theorem dX9_marksAsDigits_3 : decode cX9_marksAsDigits 3 = .ok (.istore_n 3, 1) := by decide +kernel
theorem dX9_marksAsDigits_4 : decode cX9_marksAsDigits 4 = .ok (.iload_n 3, 1) := by decide +kernel
theorem dX9_marksAsDigits_5 : decode cX9_marksAsDigits 5 = .ok (.aload_n 0, 1) := by decide +kernel
theorem dX9_marksAsDigits_6 : decode cX9_marksAsDigits 6 = .ok (.aload_n 1, 1) := by decide +kernel
theorem dX9_marksAsDigits_7 : decode cX9_marksAsDigits 7 = .ok (.invokestatic 291, 3) := by decide +kernel
theorem dX9_marksAsDigits_10 : decode cX9_marksAsDigits 10 = .ok (.if_icmp .ge 21, 3) := by decide +kernel
theorem dX9_marksAsDigits_13 : decode cX9_marksAsDigits 13 = .ok (.bipush 10, 2) := by decide +kernel
theorem dX9_marksAsDigits_15 : decode cX9_marksAsDigits 15 = .ok (.iload_n 2, 1) := by decide +kernel
theorem dX9_marksAsDigits_16 : decode cX9_marksAsDigits 16 = .ok (.imul, 1) := by decide +kernel
theorem dX9_marksAsDigits_17 : decode cX9_marksAsDigits 17 = .ok (.aload_n 0, 1) := by decide +kernel
theorem dX9_marksAsDigits_18 : decode cX9_marksAsDigits 18 = .ok (.aload_n 1, 1) := by decide +kernel
theorem dX9_marksAsDigits_19 : decode cX9_marksAsDigits 19 = .ok (.iload_n 3, 1) := by decide +kernel
theorem dX9_marksAsDigits_20 : decode cX9_marksAsDigits 20 = .ok (.invokestatic 459, 3) := by decide +kernel
theorem dX9_marksAsDigits_23 : decode cX9_marksAsDigits 23 = .ok (.iadd, 1) := by decide +kernel
theorem dX9_marksAsDigits_24 : decode cX9_marksAsDigits 24 = .ok (.istore_n 2, 1) := by decide +kernel
theorem dX9_marksAsDigits_25 : decode cX9_marksAsDigits 25 = .ok (.iinc 3 1, 3) := by decide +kernel
theorem dX9_marksAsDigits_28 : decode cX9_marksAsDigits 28 = .ok (.goto (-24), 3) := by decide +kernel
theorem dX9_marksAsDigits_31 : decode cX9_marksAsDigits 31 = .ok (.iload_n 2, 1) := by decide +kernel
theorem dX9_marksAsDigits_32 : decode cX9_marksAsDigits 32 = .ok (.ireturn, 1) := by decide +kernel
