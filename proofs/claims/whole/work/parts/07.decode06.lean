theorem d_M_order_63 : decode c_M_order 63 = .ok (.iload_n 1, 1) := by decide +kernel
theorem d_M_order_64 : decode c_M_order 64 = .ok (.dup2, 1) := by decide +kernel
theorem d_M_order_65 : decode c_M_order 65 = .ok (.laload, 1) := by decide +kernel
theorem d_M_order_66 : decode c_M_order 66 = .ok (.lload_n 2, 1) := by decide +kernel
theorem d_M_order_67 : decode c_M_order 67 = .ok (.ladd, 1) := by decide +kernel
theorem d_M_order_68 : decode c_M_order 68 = .ok (.lastore, 1) := by decide +kernel
theorem d_M_order_69 : decode c_M_order 69 = .ok (.aload_n 0, 1) := by decide +kernel
theorem d_M_order_70 : decode c_M_order 70 = .ok (.getfield 97, 3) := by decide +kernel
theorem d_M_order_73 : decode c_M_order 73 = .ok (.iconst 0, 1) := by decide +kernel
theorem d_M_order_74 : decode c_M_order 74 = .ok (.dup2, 1) := by decide +kernel
theorem d_M_order_75 : decode c_M_order 75 = .ok (.laload, 1) := by decide +kernel
theorem d_M_order_76 : decode c_M_order 76 = .ok (.lload_n 2, 1) := by decide +kernel
theorem d_M_order_77 : decode c_M_order 77 = .ok (.ladd, 1) := by decide +kernel
theorem d_M_order_78 : decode c_M_order 78 = .ok (.lastore, 1) := by decide +kernel
theorem d_M_order_79 : decode c_M_order 79 = .ok (.aload_n 0, 1) := by decide +kernel
theorem d_M_order_80 : decode c_M_order 80 = .ok (.iload_n 1, 1) := by decide +kernel
theorem d_M_order_81 : decode c_M_order 81 = .ok (.lload_n 2, 1) := by decide +kernel
theorem d_M_order_82 : decode c_M_order 82 = .ok (.lload 4, 2) := by decide +kernel
theorem d_M_order_84 : decode c_M_order 84 = .ok (.iload 6, 2) := by decide +kernel
theorem d_M_order_86 : decode c_M_order 86 = .ok (.iload 7, 2) := by decide +kernel
theorem d_M_order_88 : decode c_M_order 88 = .ok (.invokevirtual 122, 3) := by decide +kernel
theorem d_M_order_91 : decode c_M_order 91 = .ok (.ireturn, 1) := by decide +kernel
theorem d_M_sumOf_0 : decode c_M_sumOf 0 = .ok (.aload_n 0, 1) := by decide +kernel
theorem d_M_sumOf_1 : decode c_M_sumOf 1 = .ok (.getfield 13, 3) := by decide +kernel
theorem d_M_sumOf_4 : decode c_M_sumOf 4 = .ok (.iload_n 1, 1) := by decide +kernel
theorem d_M_sumOf_5 : decode c_M_sumOf 5 = .ok (.laload, 1) := by decide +kernel
theorem d_M_sumOf_6 : decode c_M_sumOf 6 = .ok (.aload_n 0, 1) := by decide +kernel
theorem d_M_sumOf_7 : decode c_M_sumOf 7 = .ok (.getfield 44, 3) := by decide +kernel
theorem d_M_sumOf_10 : decode c_M_sumOf 10 = .ok (.aload_n 0, 1) := by decide +kernel
theorem d_M_sumOf_11 : decode c_M_sumOf 11 = .ok (.getfield 20, 3) := by decide +kernel
theorem d_M_sumOf_14 : decode c_M_sumOf 14 = .ok (.iload_n 1, 1) := by decide +kernel
theorem d_M_sumOf_15 : decode c_M_sumOf 15 = .ok (.iaload, 1) := by decide +kernel
theorem d_M_sumOf_16 : decode c_M_sumOf 16 = .ok (.laload, 1) := by decide +kernel
theorem d_M_sumOf_17 : decode c_M_sumOf 17 = .ok (.lmul, 1) := by decide +kernel
theorem d_M_sumOf_18 : decode c_M_sumOf 18 = .ok (.ldc2_w 42, 3) := by decide +kernel
theorem d_M_sumOf_21 : decode c_M_sumOf 21 = .ok (.ldiv, 1) := by decide +kernel
theorem d_M_sumOf_22 : decode c_M_sumOf 22 = .ok (.lreturn, 1) := by decide +kernel
theorem d_M_failsNow_0 : decode c_M_failsNow 0 = .ok (.aload_n 0, 1) := by decide +kernel
theorem d_M_failsNow_1 : decode c_M_failsNow 1 = .ok (.getfield 58, 3) := by decide +kernel
theorem d_M_failsNow_4 : decode c_M_failsNow 4 = .ok (.iload_n 1, 1) := by decide +kernel
theorem d_M_failsNow_5 : decode c_M_failsNow 5 = .ok (.iaload, 1) := by decide +kernel
theorem d_M_failsNow_6 : decode c_M_failsNow 6 = .ok (.iload_n 2, 1) := by decide +kernel
theorem d_M_failsNow_7 : decode c_M_failsNow 7 = .ok (.ishr, 1) := by decide +kernel
theorem d_M_failsNow_8 : decode c_M_failsNow 8 = .ok (.iconst 1, 1) := by decide +kernel
theorem d_M_failsNow_9 : decode c_M_failsNow 9 = .ok (.iand, 1) := by decide +kernel
theorem d_M_failsNow_10 : decode c_M_failsNow 10 = .ok (.iconst 1, 1) := by decide +kernel
theorem d_M_failsNow_11 : decode c_M_failsNow 11 = .ok (.if_icmp .ne 7, 3) := by decide +kernel
theorem d_M_failsNow_14 : decode c_M_failsNow 14 = .ok (.iconst 1, 1) := by decide +kernel
theorem d_M_failsNow_15 : decode c_M_failsNow 15 = .ok (.goto 4, 3) := by decide +kernel
theorem d_M_failsNow_18 : decode c_M_failsNow 18 = .ok (.iconst 0, 1) := by decide +kernel
theorem d_M_failsNow_19 : decode c_M_failsNow 19 = .ok (.istore_n 3, 1) := by decide +kernel
theorem d_M_failsNow_20 : decode c_M_failsNow 20 = .ok (.aload_n 0, 1) := by decide +kernel
theorem d_M_failsNow_21 : decode c_M_failsNow 21 = .ok (.getfield 58, 3) := by decide +kernel
theorem d_M_failsNow_24 : decode c_M_failsNow 24 = .ok (.iload_n 1, 1) := by decide +kernel
theorem d_M_failsNow_25 : decode c_M_failsNow 25 = .ok (.dup2, 1) := by decide +kernel
theorem d_M_failsNow_26 : decode c_M_failsNow 26 = .ok (.iaload, 1) := by decide +kernel
theorem d_M_failsNow_27 : decode c_M_failsNow 27 = .ok (.iload_n 3, 1) := by decide +kernel
theorem d_M_failsNow_28 : decode c_M_failsNow 28 = .ok (.ifCond .eq 9, 3) := by decide +kernel
theorem d_M_failsNow_31 : decode c_M_failsNow 31 = .ok (.iconst 1, 1) := by decide +kernel
theorem d_M_failsNow_32 : decode c_M_failsNow 32 = .ok (.iload_n 2, 1) := by decide +kernel
theorem d_M_failsNow_33 : decode c_M_failsNow 33 = .ok (.ishl, 1) := by decide +kernel
theorem d_M_failsNow_34 : decode c_M_failsNow 34 = .ok (.goto 4, 3) := by decide +kernel
theorem d_M_failsNow_37 : decode c_M_failsNow 37 = .ok (.iconst 0, 1) := by decide +kernel
theorem d_M_failsNow_38 : decode c_M_failsNow 38 = .ok (.isub, 1) := by decide +kernel
theorem d_M_failsNow_39 : decode c_M_failsNow 39 = .ok (.iastore, 1) := by decide +kernel
theorem d_M_failsNow_40 : decode c_M_failsNow 40 = .ok (.aload_n 0, 1) := by decide +kernel
theorem d_M_failsNow_41 : decode c_M_failsNow 41 = .ok (.getfield 97, 3) := by decide +kernel
theorem d_M_failsNow_44 : decode c_M_failsNow 44 = .ok (.bipush 6, 2) := by decide +kernel
theorem d_M_failsNow_46 : decode c_M_failsNow 46 = .ok (.dup2, 1) := by decide +kernel
theorem d_M_failsNow_47 : decode c_M_failsNow 47 = .ok (.laload, 1) := by decide +kernel
theorem d_M_failsNow_48 : decode c_M_failsNow 48 = .ok (.iload_n 3, 1) := by decide +kernel
theorem d_M_failsNow_49 : decode c_M_failsNow 49 = .ok (.ifCond .eq 7, 3) := by decide +kernel
theorem d_M_failsNow_52 : decode c_M_failsNow 52 = .ok (.lconst 1, 1) := by decide +kernel
theorem d_M_failsNow_53 : decode c_M_failsNow 53 = .ok (.goto 4, 3) := by decide +kernel
theorem d_M_failsNow_56 : decode c_M_failsNow 56 = .ok (.lconst 0, 1) := by decide +kernel
theorem d_M_failsNow_57 : decode c_M_failsNow 57 = .ok (.ladd, 1) := by decide +kernel
theorem d_M_failsNow_58 : decode c_M_failsNow 58 = .ok (.lastore, 1) := by decide +kernel
theorem d_M_failsNow_59 : decode c_M_failsNow 59 = .ok (.iload_n 3, 1) := by decide +kernel
theorem d_M_failsNow_60 : decode c_M_failsNow 60 = .ok (.ireturn, 1) := by decide +kernel
theorem d_M_pay_0 : decode c_M_pay 0 = .ok (.aload_n 0, 1) := by decide +kernel
theorem d_M_pay_1 : decode c_M_pay 1 = .ok (.lload_n 2, 1) := by decide +kernel
theorem d_M_pay_2 : decode c_M_pay 2 = .ok (.invokevirtual 126, 3) := by decide +kernel
theorem d_M_pay_5 : decode c_M_pay 5 = .ok (.istore 7, 2) := by decide +kernel
theorem d_M_pay_7 : decode c_M_pay 7 = .ok (.iload 7, 2) := by decide +kernel
theorem d_M_pay_9 : decode c_M_pay 9 = .ok (.ifCond .ne 6, 3) := by decide +kernel
theorem d_M_pay_12 : decode c_M_pay 12 = .ok (.bipush (-101), 2) := by decide +kernel
theorem d_M_pay_14 : decode c_M_pay 14 = .ok (.ireturn, 1) := by decide +kernel
theorem d_M_pay_15 : decode c_M_pay 15 = .ok (.iload_n 1, 1) := by decide +kernel
theorem d_M_pay_16 : decode c_M_pay 16 = .ok (.invokestatic 114, 3) := by decide +kernel
theorem d_M_pay_19 : decode c_M_pay 19 = .ok (.ifCond .eq 10, 3) := by decide +kernel
theorem d_M_pay_22 : decode c_M_pay 22 = .ok (.lload 5, 2) := by decide +kernel
theorem d_M_pay_24 : decode c_M_pay 24 = .ok (.lconst 0, 1) := by decide +kernel
theorem d_M_pay_25 : decode c_M_pay 25 = .ok (.lcmp, 1) := by decide +kernel
theorem d_M_pay_26 : decode c_M_pay 26 = .ok (.ifCond .ge 6, 3) := by decide +kernel
theorem d_M_pay_29 : decode c_M_pay 29 = .ok (.bipush (-102), 2) := by decide +kernel
theorem d_M_pay_31 : decode c_M_pay 31 = .ok (.ireturn, 1) := by decide +kernel
theorem d_M_pay_32 : decode c_M_pay 32 = .ok (.aload_n 0, 1) := by decide +kernel
theorem d_M_pay_33 : decode c_M_pay 33 = .ok (.getfield 32, 3) := by decide +kernel
theorem d_M_pay_36 : decode c_M_pay 36 = .ok (.iload 7, 2) := by decide +kernel
theorem d_M_pay_38 : decode c_M_pay 38 = .ok (.iaload, 1) := by decide +kernel
theorem d_M_pay_39 : decode c_M_pay 39 = .ok (.iconst (-1), 1) := by decide +kernel
theorem d_M_pay_40 : decode c_M_pay 40 = .ok (.if_icmp .eq 18, 3) := by decide +kernel
theorem d_M_pay_43 : decode c_M_pay 43 = .ok (.aload_n 0, 1) := by decide +kernel
theorem d_M_pay_44 : decode c_M_pay 44 = .ok (.getfield 32, 3) := by decide +kernel
theorem d_M_pay_47 : decode c_M_pay 47 = .ok (.iload 7, 2) := by decide +kernel
theorem d_M_pay_49 : decode c_M_pay 49 = .ok (.iaload, 1) := by decide +kernel
theorem d_M_pay_50 : decode c_M_pay 50 = .ok (.iload_n 1, 1) := by decide +kernel
theorem d_M_pay_51 : decode c_M_pay 51 = .ok (.if_icmp .eq 7, 3) := by decide +kernel
theorem d_M_pay_54 : decode c_M_pay 54 = .ok (.iconst 1, 1) := by decide +kernel
theorem d_M_pay_55 : decode c_M_pay 55 = .ok (.goto 4, 3) := by decide +kernel
theorem d_M_pay_58 : decode c_M_pay 58 = .ok (.iconst 0, 1) := by decide +kernel
theorem d_M_pay_59 : decode c_M_pay 59 = .ok (.istore 8, 2) := by decide +kernel
theorem d_M_pay_61 : decode c_M_pay 61 = .ok (.aload_n 0, 1) := by decide +kernel
theorem d_M_pay_62 : decode c_M_pay 62 = .ok (.getfield 7, 3) := by decide +kernel
theorem d_M_pay_65 : decode c_M_pay 65 = .ok (.iload 7, 2) := by decide +kernel
theorem d_M_pay_67 : decode c_M_pay 67 = .ok (.iaload, 1) := by decide +kernel
theorem d_M_pay_68 : decode c_M_pay 68 = .ok (.ifCond .ne 41, 3) := by decide +kernel
theorem d_M_pay_71 : decode c_M_pay 71 = .ok (.lload 5, 2) := by decide +kernel
theorem d_M_pay_73 : decode c_M_pay 73 = .ok (.aload_n 0, 1) := by decide +kernel
theorem d_M_pay_74 : decode c_M_pay 74 = .ok (.getfield 17, 3) := by decide +kernel
theorem d_M_pay_77 : decode c_M_pay 77 = .ok (.iload 7, 2) := by decide +kernel
theorem d_M_pay_79 : decode c_M_pay 79 = .ok (.laload, 1) := by decide +kernel
theorem d_M_pay_80 : decode c_M_pay 80 = .ok (.lcmp, 1) := by decide +kernel
theorem d_M_pay_81 : decode c_M_pay 81 = .ok (.ifCond .gt 28, 3) := by decide +kernel
theorem d_M_pay_84 : decode c_M_pay 84 = .ok (.iload 8, 2) := by decide +kernel
theorem d_M_pay_86 : decode c_M_pay 86 = .ok (.ifCond .ne 23, 3) := by decide +kernel
theorem d_M_pay_89 : decode c_M_pay 89 = .ok (.aload_n 0, 1) := by decide +kernel
theorem d_M_pay_90 : decode c_M_pay 90 = .ok (.getfield 55, 3) := by decide +kernel
theorem d_M_pay_93 : decode c_M_pay 93 = .ok (.iload_n 1, 1) := by decide +kernel
theorem d_M_pay_94 : decode c_M_pay 94 = .ok (.baload, 1) := by decide +kernel
theorem d_M_pay_95 : decode c_M_pay 95 = .ok (.ifCond .eq 17, 3) := by decide +kernel
theorem d_M_pay_98 : decode c_M_pay 98 = .ok (.aload_n 0, 1) := by decide +kernel
theorem d_M_pay_99 : decode c_M_pay 99 = .ok (.getfield 32, 3) := by decide +kernel
theorem d_M_pay_102 : decode c_M_pay 102 = .ok (.iload 7, 2) := by decide +kernel
theorem d_M_pay_104 : decode c_M_pay 104 = .ok (.iaload, 1) := by decide +kernel
theorem d_M_pay_105 : decode c_M_pay 105 = .ok (.iload_n 1, 1) := by decide +kernel
theorem d_M_pay_106 : decode c_M_pay 106 = .ok (.if_icmp .eq 6, 3) := by decide +kernel
theorem d_M_pay_109 : decode c_M_pay 109 = .ok (.bipush (-103), 2) := by decide +kernel
theorem d_M_pay_111 : decode c_M_pay 111 = .ok (.ireturn, 1) := by decide +kernel
theorem d_M_pay_112 : decode c_M_pay 112 = .ok (.aload_n 0, 1) := by decide +kernel
theorem d_M_pay_113 : decode c_M_pay 113 = .ok (.iload_n 1, 1) := by decide +kernel
theorem d_M_pay_114 : decode c_M_pay 114 = .ok (.iconst 1, 1) := by decide +kernel
theorem d_M_pay_115 : decode c_M_pay 115 = .ok (.invokevirtual 130, 3) := by decide +kernel
theorem d_M_pay_118 : decode c_M_pay 118 = .ok (.ifCond .eq 6, 3) := by decide +kernel
theorem d_M_pay_121 : decode c_M_pay 121 = .ok (.bipush (-108), 2) := by decide +kernel
theorem d_M_pay_123 : decode c_M_pay 123 = .ok (.ireturn, 1) := by decide +kernel
theorem d_M_pay_124 : decode c_M_pay 124 = .ok (.aload_n 0, 1) := by decide +kernel
theorem d_M_pay_125 : decode c_M_pay 125 = .ok (.iload_n 1, 1) := by decide +kernel
theorem d_M_pay_126 : decode c_M_pay 126 = .ok (.iconst 2, 1) := by decide +kernel
theorem d_M_pay_127 : decode c_M_pay 127 = .ok (.invokevirtual 130, 3) := by decide +kernel
theorem d_M_pay_130 : decode c_M_pay 130 = .ok (.ifCond .eq 6, 3) := by decide +kernel
theorem d_M_pay_133 : decode c_M_pay 133 = .ok (.bipush (-108), 2) := by decide +kernel
theorem d_M_pay_135 : decode c_M_pay 135 = .ok (.ireturn, 1) := by decide +kernel
theorem d_M_pay_136 : decode c_M_pay 136 = .ok (.iload 4, 2) := by decide +kernel
theorem d_M_pay_138 : decode c_M_pay 138 = .ok (.aload_n 0, 1) := by decide +kernel
theorem d_M_pay_139 : decode c_M_pay 139 = .ok (.getfield 23, 3) := by decide +kernel
theorem d_M_pay_142 : decode c_M_pay 142 = .ok (.iload 7, 2) := by decide +kernel
theorem d_M_pay_144 : decode c_M_pay 144 = .ok (.iaload, 1) := by decide +kernel
theorem d_M_pay_145 : decode c_M_pay 145 = .ok (.if_icmp .eq 6, 3) := by decide +kernel
theorem d_M_pay_148 : decode c_M_pay 148 = .ok (.bipush (-105), 2) := by decide +kernel
theorem d_M_pay_150 : decode c_M_pay 150 = .ok (.ireturn, 1) := by decide +kernel
theorem d_M_pay_151 : decode c_M_pay 151 = .ok (.aload_n 0, 1) := by decide +kernel
theorem d_M_pay_152 : decode c_M_pay 152 = .ok (.iload_n 1, 1) := by decide +kernel
theorem d_M_pay_153 : decode c_M_pay 153 = .ok (.iconst 3, 1) := by decide +kernel
theorem d_M_pay_154 : decode c_M_pay 154 = .ok (.invokevirtual 130, 3) := by decide +kernel
theorem d_M_pay_157 : decode c_M_pay 157 = .ok (.ifCond .eq 6, 3) := by decide +kernel
theorem d_M_pay_160 : decode c_M_pay 160 = .ok (.bipush (-108), 2) := by decide +kernel
theorem d_M_pay_162 : decode c_M_pay 162 = .ok (.ireturn, 1) := by decide +kernel
theorem d_M_pay_163 : decode c_M_pay 163 = .ok (.lload 5, 2) := by decide +kernel
theorem d_M_pay_165 : decode c_M_pay 165 = .ok (.ldc2_w 134, 3) := by decide +kernel
theorem d_M_pay_168 : decode c_M_pay 168 = .ok (.ldiv, 1) := by decide +kernel
theorem d_M_pay_169 : decode c_M_pay 169 = .ok (.lstore 9, 2) := by decide +kernel
theorem d_M_pay_171 : decode c_M_pay 171 = .ok (.aload_n 0, 1) := by decide +kernel
theorem d_M_pay_172 : decode c_M_pay 172 = .ok (.iload 7, 2) := by decide +kernel
theorem d_M_pay_174 : decode c_M_pay 174 = .ok (.invokevirtual 136, 3) := by decide +kernel
theorem d_M_pay_177 : decode c_M_pay 177 = .ok (.lstore 11, 2) := by decide +kernel
theorem d_M_pay_179 : decode c_M_pay 179 = .ok (.aload_n 0, 1) := by decide +kernel
theorem d_M_pay_180 : decode c_M_pay 180 = .ok (.getfield 61, 3) := by decide +kernel
theorem d_M_pay_183 : decode c_M_pay 183 = .ok (.iload_n 1, 1) := by decide +kernel
theorem d_M_pay_184 : decode c_M_pay 184 = .ok (.laload, 1) := by decide +kernel
theorem d_M_pay_185 : decode c_M_pay 185 = .ok (.lload 9, 2) := by decide +kernel
theorem d_M_pay_187 : decode c_M_pay 187 = .ok (.lcmp, 1) := by decide +kernel
theorem d_M_pay_188 : decode c_M_pay 188 = .ok (.ifCond .ne 12, 3) := by decide +kernel
theorem d_M_pay_191 : decode c_M_pay 191 = .ok (.aload_n 0, 1) := by decide +kernel
theorem d_M_pay_192 : decode c_M_pay 192 = .ok (.getfield 64, 3) := by decide +kernel
theorem d_M_pay_195 : decode c_M_pay 195 = .ok (.iload_n 1, 1) := by decide +kernel
theorem d_M_pay_196 : decode c_M_pay 196 = .ok (.laload, 1) := by decide +kernel
theorem d_M_pay_197 : decode c_M_pay 197 = .ok (.goto 4, 3) := by decide +kernel
theorem d_M_pay_200 : decode c_M_pay 200 = .ok (.lconst 0, 1) := by decide +kernel
theorem d_M_pay_201 : decode c_M_pay 201 = .ok (.lstore 13, 2) := by decide +kernel
theorem d_M_pay_203 : decode c_M_pay 203 = .ok (.aload_n 0, 1) := by decide +kernel
theorem d_M_pay_204 : decode c_M_pay 204 = .ok (.getfield 52, 3) := by decide +kernel
theorem d_M_pay_207 : decode c_M_pay 207 = .ok (.iload_n 1, 1) := by decide +kernel
theorem d_M_pay_208 : decode c_M_pay 208 = .ok (.laload, 1) := by decide +kernel
theorem d_M_pay_209 : decode c_M_pay 209 = .ok (.lconst 0, 1) := by decide +kernel
theorem d_M_pay_210 : decode c_M_pay 210 = .ok (.lcmp, 1) := by decide +kernel
theorem d_M_pay_211 : decode c_M_pay 211 = .ok (.ifCond .lt 21, 3) := by decide +kernel
theorem d_M_pay_214 : decode c_M_pay 214 = .ok (.lload 13, 2) := by decide +kernel
theorem d_M_pay_216 : decode c_M_pay 216 = .ok (.lload 11, 2) := by decide +kernel
theorem d_M_pay_218 : decode c_M_pay 218 = .ok (.ladd, 1) := by decide +kernel
theorem d_M_pay_219 : decode c_M_pay 219 = .ok (.aload_n 0, 1) := by decide +kernel
theorem d_M_pay_220 : decode c_M_pay 220 = .ok (.getfield 52, 3) := by decide +kernel
theorem d_M_pay_223 : decode c_M_pay 223 = .ok (.iload_n 1, 1) := by decide +kernel
theorem d_M_pay_224 : decode c_M_pay 224 = .ok (.laload, 1) := by decide +kernel
theorem d_M_pay_225 : decode c_M_pay 225 = .ok (.lcmp, 1) := by decide +kernel
theorem d_M_pay_226 : decode c_M_pay 226 = .ok (.ifCond .le 6, 3) := by decide +kernel
theorem d_M_pay_229 : decode c_M_pay 229 = .ok (.bipush (-106), 2) := by decide +kernel
theorem d_M_pay_231 : decode c_M_pay 231 = .ok (.ireturn, 1) := by decide +kernel
theorem d_M_pay_232 : decode c_M_pay 232 = .ok (.aload_n 0, 1) := by decide +kernel
theorem d_M_pay_233 : decode c_M_pay 233 = .ok (.iload_n 1, 1) := by decide +kernel
theorem d_M_pay_234 : decode c_M_pay 234 = .ok (.iconst 4, 1) := by decide +kernel
theorem d_M_pay_235 : decode c_M_pay 235 = .ok (.invokevirtual 130, 3) := by decide +kernel
theorem d_M_pay_238 : decode c_M_pay 238 = .ok (.ifCond .eq 6, 3) := by decide +kernel
theorem d_M_pay_241 : decode c_M_pay 241 = .ok (.bipush (-108), 2) := by decide +kernel
theorem d_M_pay_243 : decode c_M_pay 243 = .ok (.ireturn, 1) := by decide +kernel
theorem d_M_pay_244 : decode c_M_pay 244 = .ok (.aload_n 0, 1) := by decide +kernel
theorem d_M_pay_245 : decode c_M_pay 245 = .ok (.getfield 47, 3) := by decide +kernel
theorem d_M_pay_248 : decode c_M_pay 248 = .ok (.iload_n 1, 1) := by decide +kernel
theorem d_M_pay_249 : decode c_M_pay 249 = .ok (.laload, 1) := by decide +kernel
theorem d_M_pay_250 : decode c_M_pay 250 = .ok (.lload 11, 2) := by decide +kernel
theorem d_M_pay_252 : decode c_M_pay 252 = .ok (.lcmp, 1) := by decide +kernel
theorem d_M_pay_253 : decode c_M_pay 253 = .ok (.ifCond .ge 6, 3) := by decide +kernel
theorem d_M_pay_256 : decode c_M_pay 256 = .ok (.bipush (-107), 2) := by decide +kernel
theorem d_M_pay_258 : decode c_M_pay 258 = .ok (.ireturn, 1) := by decide +kernel
theorem d_M_pay_259 : decode c_M_pay 259 = .ok (.aload_n 0, 1) := by decide +kernel
theorem d_M_pay_260 : decode c_M_pay 260 = .ok (.iload_n 1, 1) := by decide +kernel
theorem d_M_pay_261 : decode c_M_pay 261 = .ok (.iconst 5, 1) := by decide +kernel
theorem d_M_pay_262 : decode c_M_pay 262 = .ok (.invokevirtual 130, 3) := by decide +kernel
theorem d_M_pay_265 : decode c_M_pay 265 = .ok (.ifCond .eq 6, 3) := by decide +kernel
theorem d_M_pay_268 : decode c_M_pay 268 = .ok (.bipush (-108), 2) := by decide +kernel
theorem d_M_pay_270 : decode c_M_pay 270 = .ok (.ireturn, 1) := by decide +kernel
theorem d_M_pay_271 : decode c_M_pay 271 = .ok (.aload_n 0, 1) := by decide +kernel
theorem d_M_pay_272 : decode c_M_pay 272 = .ok (.getfield 47, 3) := by decide +kernel
theorem d_M_pay_275 : decode c_M_pay 275 = .ok (.iload_n 1, 1) := by decide +kernel
theorem d_M_pay_276 : decode c_M_pay 276 = .ok (.dup2, 1) := by decide +kernel
theorem d_M_pay_277 : decode c_M_pay 277 = .ok (.laload, 1) := by decide +kernel
theorem d_M_pay_278 : decode c_M_pay 278 = .ok (.lload 11, 2) := by decide +kernel
theorem d_M_pay_280 : decode c_M_pay 280 = .ok (.lsub, 1) := by decide +kernel
theorem d_M_pay_281 : decode c_M_pay 281 = .ok (.lastore, 1) := by decide +kernel
theorem d_M_pay_282 : decode c_M_pay 282 = .ok (.aload_n 0, 1) := by decide +kernel
theorem d_M_pay_283 : decode c_M_pay 283 = .ok (.getfield 97, 3) := by decide +kernel
theorem d_M_pay_286 : decode c_M_pay 286 = .ok (.iconst 1, 1) := by decide +kernel
theorem d_M_pay_287 : decode c_M_pay 287 = .ok (.dup2, 1) := by decide +kernel
theorem d_M_pay_288 : decode c_M_pay 288 = .ok (.laload, 1) := by decide +kernel
theorem d_M_pay_289 : decode c_M_pay 289 = .ok (.lload 11, 2) := by decide +kernel
theorem d_M_pay_291 : decode c_M_pay 291 = .ok (.ladd, 1) := by decide +kernel
theorem d_M_pay_292 : decode c_M_pay 292 = .ok (.lastore, 1) := by decide +kernel
theorem d_M_pay_293 : decode c_M_pay 293 = .ok (.aload_n 0, 1) := by decide +kernel
theorem d_M_pay_294 : decode c_M_pay 294 = .ok (.getfield 7, 3) := by decide +kernel
theorem d_M_pay_297 : decode c_M_pay 297 = .ok (.iload 7, 2) := by decide +kernel
theorem d_M_pay_299 : decode c_M_pay 299 = .ok (.iconst 1, 1) := by decide +kernel
theorem d_M_pay_300 : decode c_M_pay 300 = .ok (.iastore, 1) := by decide +kernel
theorem d_M_pay_301 : decode c_M_pay 301 = .ok (.aload_n 0, 1) := by decide +kernel
theorem d_M_pay_302 : decode c_M_pay 302 = .ok (.getfield 29, 3) := by decide +kernel
theorem d_M_pay_305 : decode c_M_pay 305 = .ok (.iload 7, 2) := by decide +kernel
theorem d_M_pay_307 : decode c_M_pay 307 = .ok (.iload_n 1, 1) := by decide +kernel
theorem d_M_pay_308 : decode c_M_pay 308 = .ok (.iastore, 1) := by decide +kernel
theorem d_M_pay_309 : decode c_M_pay 309 = .ok (.aload_n 0, 1) := by decide +kernel
theorem d_M_pay_310 : decode c_M_pay 310 = .ok (.getfield 32, 3) := by decide +kernel
theorem d_M_pay_313 : decode c_M_pay 313 = .ok (.iload 7, 2) := by decide +kernel
theorem d_M_pay_315 : decode c_M_pay 315 = .ok (.iconst (-1), 1) := by decide +kernel
theorem d_M_pay_316 : decode c_M_pay 316 = .ok (.iastore, 1) := by decide +kernel
theorem d_M_pay_317 : decode c_M_pay 317 = .ok (.aload_n 0, 1) := by decide +kernel
theorem d_M_pay_318 : decode c_M_pay 318 = .ok (.getfield 67, 3) := by decide +kernel
theorem d_M_pay_321 : decode c_M_pay 321 = .ok (.iload_n 1, 1) := by decide +kernel
theorem d_M_pay_322 : decode c_M_pay 322 = .ok (.aload_n 0, 1) := by decide +kernel
theorem d_M_pay_323 : decode c_M_pay 323 = .ok (.getfield 61, 3) := by decide +kernel
theorem d_M_pay_326 : decode c_M_pay 326 = .ok (.iload_n 1, 1) := by decide +kernel
theorem d_M_pay_327 : decode c_M_pay 327 = .ok (.laload, 1) := by decide +kernel
theorem d_M_pay_328 : decode c_M_pay 328 = .ok (.lload 9, 2) := by decide +kernel
theorem d_M_pay_330 : decode c_M_pay 330 = .ok (.lcmp, 1) := by decide +kernel
theorem d_M_pay_331 : decode c_M_pay 331 = .ok (.ifCond .ne 12, 3) := by decide +kernel
theorem d_M_pay_334 : decode c_M_pay 334 = .ok (.aload_n 0, 1) := by decide +kernel
theorem d_M_pay_335 : decode c_M_pay 335 = .ok (.getfield 67, 3) := by decide +kernel
theorem d_M_pay_338 : decode c_M_pay 338 = .ok (.iload_n 1, 1) := by decide +kernel
theorem d_M_pay_339 : decode c_M_pay 339 = .ok (.iaload, 1) := by decide +kernel
theorem d_M_pay_340 : decode c_M_pay 340 = .ok (.goto 4, 3) := by decide +kernel
theorem d_M_pay_343 : decode c_M_pay 343 = .ok (.iconst 0, 1) := by decide +kernel
theorem d_M_pay_344 : decode c_M_pay 344 = .ok (.iastore, 1) := by decide +kernel
theorem d_M_pay_345 : decode c_M_pay 345 = .ok (.aload_n 0, 1) := by decide +kernel
theorem d_M_pay_346 : decode c_M_pay 346 = .ok (.getfield 61, 3) := by decide +kernel
theorem d_M_pay_349 : decode c_M_pay 349 = .ok (.iload_n 1, 1) := by decide +kernel
theorem d_M_pay_350 : decode c_M_pay 350 = .ok (.lload 9, 2) := by decide +kernel
theorem d_M_pay_352 : decode c_M_pay 352 = .ok (.lastore, 1) := by decide +kernel
theorem d_M_pay_353 : decode c_M_pay 353 = .ok (.aload_n 0, 1) := by decide +kernel
theorem d_M_pay_354 : decode c_M_pay 354 = .ok (.getfield 64, 3) := by decide +kernel
theorem d_M_pay_357 : decode c_M_pay 357 = .ok (.iload_n 1, 1) := by decide +kernel
theorem d_M_pay_358 : decode c_M_pay 358 = .ok (.lload 13, 2) := by decide +kernel
theorem d_M_pay_360 : decode c_M_pay 360 = .ok (.lload 11, 2) := by decide +kernel
theorem d_M_pay_362 : decode c_M_pay 362 = .ok (.ladd, 1) := by decide +kernel
theorem d_M_pay_363 : decode c_M_pay 363 = .ok (.lastore, 1) := by decide +kernel
theorem d_M_pay_364 : decode c_M_pay 364 = .ok (.aload_n 0, 1) := by decide +kernel
theorem d_M_pay_365 : decode c_M_pay 365 = .ok (.getfield 70, 3) := by decide +kernel
theorem d_M_pay_368 : decode c_M_pay 368 = .ok (.sipush 300, 3) := by decide +kernel
theorem d_M_pay_371 : decode c_M_pay 371 = .ok (.iload_n 1, 1) := by decide +kernel
theorem d_M_pay_372 : decode c_M_pay 372 = .ok (.imul, 1) := by decide +kernel
theorem d_M_pay_373 : decode c_M_pay 373 = .ok (.aload_n 0, 1) := by decide +kernel
theorem d_M_pay_374 : decode c_M_pay 374 = .ok (.getfield 67, 3) := by decide +kernel
theorem d_M_pay_377 : decode c_M_pay 377 = .ok (.iload_n 1, 1) := by decide +kernel
theorem d_M_pay_378 : decode c_M_pay 378 = .ok (.iaload, 1) := by decide +kernel
theorem d_M_pay_379 : decode c_M_pay 379 = .ok (.iadd, 1) := by decide +kernel
theorem d_M_pay_380 : decode c_M_pay 380 = .ok (.iload 4, 2) := by decide +kernel
theorem d_M_pay_382 : decode c_M_pay 382 = .ok (.iastore, 1) := by decide +kernel
theorem d_M_pay_383 : decode c_M_pay 383 = .ok (.aload_n 0, 1) := by decide +kernel
theorem d_M_pay_384 : decode c_M_pay 384 = .ok (.getfield 67, 3) := by decide +kernel
theorem d_M_pay_387 : decode c_M_pay 387 = .ok (.iload_n 1, 1) := by decide +kernel
theorem d_M_pay_388 : decode c_M_pay 388 = .ok (.dup2, 1) := by decide +kernel
theorem d_M_pay_389 : decode c_M_pay 389 = .ok (.iaload, 1) := by decide +kernel
theorem d_M_pay_390 : decode c_M_pay 390 = .ok (.iconst 1, 1) := by decide +kernel
theorem d_M_pay_391 : decode c_M_pay 391 = .ok (.iadd, 1) := by decide +kernel
theorem d_M_pay_392 : decode c_M_pay 392 = .ok (.iastore, 1) := by decide +kernel
theorem d_M_pay_393 : decode c_M_pay 393 = .ok (.iconst 0, 1) := by decide +kernel
theorem d_M_pay_394 : decode c_M_pay 394 = .ok (.istore 15, 2) := by decide +kernel
theorem d_M_pay_396 : decode c_M_pay 396 = .ok (.sipush 300, 3) := by decide +kernel
theorem d_M_pay_399 : decode c_M_pay 399 = .ok (.iload_n 1, 1) := by decide +kernel
theorem d_M_pay_400 : decode c_M_pay 400 = .ok (.imul, 1) := by decide +kernel
theorem d_M_pay_401 : decode c_M_pay 401 = .ok (.istore 16, 2) := by decide +kernel
theorem d_M_pay_403 : decode c_M_pay 403 = .ok (.iload 16, 2) := by decide +kernel
theorem d_M_pay_405 : decode c_M_pay 405 = .ok (.sipush 300, 3) := by decide +kernel
theorem d_M_pay_408 : decode c_M_pay 408 = .ok (.iload_n 1, 1) := by decide +kernel
theorem d_M_pay_409 : decode c_M_pay 409 = .ok (.imul, 1) := by decide +kernel
theorem d_M_pay_410 : decode c_M_pay 410 = .ok (.aload_n 0, 1) := by decide +kernel
theorem d_M_pay_411 : decode c_M_pay 411 = .ok (.getfield 67, 3) := by decide +kernel
theorem d_M_pay_414 : decode c_M_pay 414 = .ok (.iload_n 1, 1) := by decide +kernel
theorem d_M_pay_415 : decode c_M_pay 415 = .ok (.iaload, 1) := by decide +kernel
theorem d_M_pay_416 : decode c_M_pay 416 = .ok (.iadd, 1) := by decide +kernel
theorem d_M_pay_417 : decode c_M_pay 417 = .ok (.if_icmp .ge 31, 3) := by decide +kernel
theorem d_M_pay_420 : decode c_M_pay 420 = .ok (.iload 15, 2) := by decide +kernel
theorem d_M_pay_422 : decode c_M_pay 422 = .ok (.aload_n 0, 1) := by decide +kernel
theorem d_M_pay_423 : decode c_M_pay 423 = .ok (.getfield 70, 3) := by decide +kernel
theorem d_M_pay_426 : decode c_M_pay 426 = .ok (.iload 16, 2) := by decide +kernel
theorem d_M_pay_428 : decode c_M_pay 428 = .ok (.iaload, 1) := by decide +kernel
theorem d_M_pay_429 : decode c_M_pay 429 = .ok (.iload 4, 2) := by decide +kernel
theorem d_M_pay_431 : decode c_M_pay 431 = .ok (.if_icmp .ne 7, 3) := by decide +kernel
theorem d_M_pay_434 : decode c_M_pay 434 = .ok (.iconst 1, 1) := by decide +kernel
theorem d_M_pay_435 : decode c_M_pay 435 = .ok (.goto 4, 3) := by decide +kernel
theorem d_M_pay_438 : decode c_M_pay 438 = .ok (.iconst 0, 1) := by decide +kernel
theorem d_M_pay_439 : decode c_M_pay 439 = .ok (.iadd, 1) := by decide +kernel
theorem d_M_pay_440 : decode c_M_pay 440 = .ok (.istore 15, 2) := by decide +kernel
theorem d_M_pay_442 : decode c_M_pay 442 = .ok (.iinc 16 1, 3) := by decide +kernel
theorem d_M_pay_445 : decode c_M_pay 445 = .ok (.goto (-42), 3) := by decide +kernel
theorem d_M_pay_448 : decode c_M_pay 448 = .ok (.aload_n 0, 1) := by decide +kernel
theorem d_M_pay_449 : decode c_M_pay 449 = .ok (.getfield 97, 3) := by decide +kernel
theorem d_M_pay_452 : decode c_M_pay 452 = .ok (.bipush 7, 2) := by decide +kernel
theorem d_M_pay_454 : decode c_M_pay 454 = .ok (.dup2, 1) := by decide +kernel
theorem d_M_pay_455 : decode c_M_pay 455 = .ok (.laload, 1) := by decide +kernel
theorem d_M_pay_456 : decode c_M_pay 456 = .ok (.iload 15, 2) := by decide +kernel
theorem d_M_pay_458 : decode c_M_pay 458 = .ok (.iconst 2, 1) := by decide +kernel
theorem d_M_pay_459 : decode c_M_pay 459 = .ok (.if_icmp .le 7, 3) := by decide +kernel
theorem d_M_pay_462 : decode c_M_pay 462 = .ok (.lconst 1, 1) := by decide +kernel
