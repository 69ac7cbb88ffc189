theorem d_M_pass_66 : decode c_M_pass 66 = .ok (.getfield 47, 3) := by decide +kernel
theorem d_M_pass_69 : decode c_M_pass 69 = .ok (.aload_n 0, 1) := by decide +kernel
theorem d_M_pass_70 : decode c_M_pass 70 = .ok (.getfield 88, 3) := by decide +kernel
theorem d_M_pass_73 : decode c_M_pass 73 = .ok (.iload 4, 2) := by decide +kernel
theorem d_M_pass_75 : decode c_M_pass 75 = .ok (.iaload, 1) := by decide +kernel
theorem d_M_pass_76 : decode c_M_pass 76 = .ok (.dup2, 1) := by decide +kernel
theorem d_M_pass_77 : decode c_M_pass 77 = .ok (.laload, 1) := by decide +kernel
theorem d_M_pass_78 : decode c_M_pass 78 = .ok (.aload_n 0, 1) := by decide +kernel
theorem d_M_pass_79 : decode c_M_pass 79 = .ok (.getfield 91, 3) := by decide +kernel
theorem d_M_pass_82 : decode c_M_pass 82 = .ok (.iload 4, 2) := by decide +kernel
theorem d_M_pass_84 : decode c_M_pass 84 = .ok (.laload, 1) := by decide +kernel
theorem d_M_pass_85 : decode c_M_pass 85 = .ok (.lsub, 1) := by decide +kernel
theorem d_M_pass_86 : decode c_M_pass 86 = .ok (.lastore, 1) := by decide +kernel
theorem d_M_pass_87 : decode c_M_pass 87 = .ok (.aload_n 0, 1) := by decide +kernel
theorem d_M_pass_88 : decode c_M_pass 88 = .ok (.getfield 97, 3) := by decide +kernel
theorem d_M_pass_91 : decode c_M_pass 91 = .ok (.iconst 3, 1) := by decide +kernel
theorem d_M_pass_92 : decode c_M_pass 92 = .ok (.dup2, 1) := by decide +kernel
theorem d_M_pass_93 : decode c_M_pass 93 = .ok (.laload, 1) := by decide +kernel
theorem d_M_pass_94 : decode c_M_pass 94 = .ok (.aload_n 0, 1) := by decide +kernel
theorem d_M_pass_95 : decode c_M_pass 95 = .ok (.getfield 91, 3) := by decide +kernel
theorem d_M_pass_98 : decode c_M_pass 98 = .ok (.iload 4, 2) := by decide +kernel
theorem d_M_pass_100 : decode c_M_pass 100 = .ok (.laload, 1) := by decide +kernel
theorem d_M_pass_101 : decode c_M_pass 101 = .ok (.ladd, 1) := by decide +kernel
theorem d_M_pass_102 : decode c_M_pass 102 = .ok (.lastore, 1) := by decide +kernel
theorem d_M_pass_103 : decode c_M_pass 103 = .ok (.iinc 3 1, 3) := by decide +kernel
theorem d_M_pass_106 : decode c_M_pass 106 = .ok (.goto 45, 3) := by decide +kernel
theorem d_M_pass_109 : decode c_M_pass 109 = .ok (.aload_n 0, 1) := by decide +kernel
theorem d_M_pass_110 : decode c_M_pass 110 = .ok (.getfield 88, 3) := by decide +kernel
theorem d_M_pass_113 : decode c_M_pass 113 = .ok (.iload_n 2, 1) := by decide +kernel
theorem d_M_pass_114 : decode c_M_pass 114 = .ok (.aload_n 0, 1) := by decide +kernel
theorem d_M_pass_115 : decode c_M_pass 115 = .ok (.getfield 88, 3) := by decide +kernel
theorem d_M_pass_118 : decode c_M_pass 118 = .ok (.iload 4, 2) := by decide +kernel
theorem d_M_pass_120 : decode c_M_pass 120 = .ok (.iaload, 1) := by decide +kernel
theorem d_M_pass_121 : decode c_M_pass 121 = .ok (.iastore, 1) := by decide +kernel
theorem d_M_pass_122 : decode c_M_pass 122 = .ok (.aload_n 0, 1) := by decide +kernel
theorem d_M_pass_123 : decode c_M_pass 123 = .ok (.getfield 91, 3) := by decide +kernel
theorem d_M_pass_126 : decode c_M_pass 126 = .ok (.iload_n 2, 1) := by decide +kernel
theorem d_M_pass_127 : decode c_M_pass 127 = .ok (.aload_n 0, 1) := by decide +kernel
theorem d_M_pass_128 : decode c_M_pass 128 = .ok (.getfield 91, 3) := by decide +kernel
theorem d_M_pass_131 : decode c_M_pass 131 = .ok (.iload 4, 2) := by decide +kernel
theorem d_M_pass_133 : decode c_M_pass 133 = .ok (.laload, 1) := by decide +kernel
theorem d_M_pass_134 : decode c_M_pass 134 = .ok (.lastore, 1) := by decide +kernel
theorem d_M_pass_135 : decode c_M_pass 135 = .ok (.aload_n 0, 1) := by decide +kernel
theorem d_M_pass_136 : decode c_M_pass 136 = .ok (.getfield 94, 3) := by decide +kernel
theorem d_M_pass_139 : decode c_M_pass 139 = .ok (.iload_n 2, 1) := by decide +kernel
theorem d_M_pass_140 : decode c_M_pass 140 = .ok (.aload_n 0, 1) := by decide +kernel
theorem d_M_pass_141 : decode c_M_pass 141 = .ok (.getfield 94, 3) := by decide +kernel
theorem d_M_pass_144 : decode c_M_pass 144 = .ok (.iload 4, 2) := by decide +kernel
theorem d_M_pass_146 : decode c_M_pass 146 = .ok (.iaload, 1) := by decide +kernel
theorem d_M_pass_147 : decode c_M_pass 147 = .ok (.iastore, 1) := by decide +kernel
theorem d_M_pass_148 : decode c_M_pass 148 = .ok (.iinc 2 1, 3) := by decide +kernel
theorem d_M_pass_151 : decode c_M_pass 151 = .ok (.iinc 4 1, 3) := by decide +kernel
theorem d_M_pass_154 : decode c_M_pass 154 = .ok (.goto (-132), 3) := by decide +kernel
theorem d_M_pass_157 : decode c_M_pass 157 = .ok (.aload_n 0, 1) := by decide +kernel
theorem d_M_pass_158 : decode c_M_pass 158 = .ok (.iload_n 2, 1) := by decide +kernel
theorem d_M_pass_159 : decode c_M_pass 159 = .ok (.putfield 167, 3) := by decide +kernel
theorem d_M_pass_162 : decode c_M_pass 162 = .ok (.iload_n 3, 1) := by decide +kernel
theorem d_M_pass_163 : decode c_M_pass 163 = .ok (.ireturn, 1) := by decide +kernel
theorem d_M_about_0 : decode c_M_about 0 = .ok (.aload_n 0, 1) := by decide +kernel
theorem d_M_about_1 : decode c_M_about 1 = .ok (.lload_n 1, 1) := by decide +kernel
theorem d_M_about_2 : decode c_M_about 2 = .ok (.invokevirtual 126, 3) := by decide +kernel
theorem d_M_about_5 : decode c_M_about 5 = .ok (.istore 4, 2) := by decide +kernel
theorem d_M_about_7 : decode c_M_about 7 = .ok (.iload 4, 2) := by decide +kernel
theorem d_M_about_9 : decode c_M_about 9 = .ok (.ifCond .ne 7, 3) := by decide +kernel
theorem d_M_about_12 : decode c_M_about 12 = .ok (.ldc2_w 152, 3) := by decide +kernel
theorem d_M_about_15 : decode c_M_about 15 = .ok (.lreturn, 1) := by decide +kernel
theorem d_M_about_16 : decode c_M_about 16 = .ok (.iload_n 3, 1) := by decide +kernel
theorem d_M_about_17 : decode c_M_about 17 = .ok (.tableswitch 90 0 5 #[39, 48, 56, 65, 74, 83], 39) := by decide +kernel
theorem d_M_about_56 : decode c_M_about 56 = .ok (.aload_n 0, 1) := by decide +kernel
theorem d_M_about_57 : decode c_M_about 57 = .ok (.getfield 7, 3) := by decide +kernel
theorem d_M_about_60 : decode c_M_about 60 = .ok (.iload 4, 2) := by decide +kernel
theorem d_M_about_62 : decode c_M_about 62 = .ok (.iaload, 1) := by decide +kernel
theorem d_M_about_63 : decode c_M_about 63 = .ok (.i2l, 1) := by decide +kernel
theorem d_M_about_64 : decode c_M_about 64 = .ok (.lreturn, 1) := by decide +kernel
theorem d_M_about_65 : decode c_M_about 65 = .ok (.aload_n 0, 1) := by decide +kernel
theorem d_M_about_66 : decode c_M_about 66 = .ok (.getfield 13, 3) := by decide +kernel
theorem d_M_about_69 : decode c_M_about 69 = .ok (.iload 4, 2) := by decide +kernel
theorem d_M_about_71 : decode c_M_about 71 = .ok (.laload, 1) := by decide +kernel
theorem d_M_about_72 : decode c_M_about 72 = .ok (.lreturn, 1) := by decide +kernel
theorem d_M_about_73 : decode c_M_about 73 = .ok (.aload_n 0, 1) := by decide +kernel
theorem d_M_about_74 : decode c_M_about 74 = .ok (.getfield 26, 3) := by decide +kernel
theorem d_M_about_77 : decode c_M_about 77 = .ok (.iload 4, 2) := by decide +kernel
theorem d_M_about_79 : decode c_M_about 79 = .ok (.iaload, 1) := by decide +kernel
theorem d_M_about_80 : decode c_M_about 80 = .ok (.i2l, 1) := by decide +kernel
theorem d_M_about_81 : decode c_M_about 81 = .ok (.lreturn, 1) := by decide +kernel
theorem d_M_about_82 : decode c_M_about 82 = .ok (.aload_n 0, 1) := by decide +kernel
theorem d_M_about_83 : decode c_M_about 83 = .ok (.getfield 29, 3) := by decide +kernel
theorem d_M_about_86 : decode c_M_about 86 = .ok (.iload 4, 2) := by decide +kernel
theorem d_M_about_88 : decode c_M_about 88 = .ok (.iaload, 1) := by decide +kernel
theorem d_M_about_89 : decode c_M_about 89 = .ok (.i2l, 1) := by decide +kernel
theorem d_M_about_90 : decode c_M_about 90 = .ok (.lreturn, 1) := by decide +kernel
theorem d_M_about_91 : decode c_M_about 91 = .ok (.aload_n 0, 1) := by decide +kernel
theorem d_M_about_92 : decode c_M_about 92 = .ok (.getfield 32, 3) := by decide +kernel
theorem d_M_about_95 : decode c_M_about 95 = .ok (.iload 4, 2) := by decide +kernel
theorem d_M_about_97 : decode c_M_about 97 = .ok (.iaload, 1) := by decide +kernel
theorem d_M_about_98 : decode c_M_about 98 = .ok (.i2l, 1) := by decide +kernel
theorem d_M_about_99 : decode c_M_about 99 = .ok (.lreturn, 1) := by decide +kernel
theorem d_M_about_100 : decode c_M_about 100 = .ok (.aload_n 0, 1) := by decide +kernel
theorem d_M_about_101 : decode c_M_about 101 = .ok (.iload 4, 2) := by decide +kernel
theorem d_M_about_103 : decode c_M_about 103 = .ok (.invokevirtual 136, 3) := by decide +kernel
theorem d_M_about_106 : decode c_M_about 106 = .ok (.lreturn, 1) := by decide +kernel
theorem d_M_about_107 : decode c_M_about 107 = .ok (.ldc2_w 170, 3) := by decide +kernel
theorem d_M_about_110 : decode c_M_about 110 = .ok (.lreturn, 1) := by decide +kernel
theorem d_M_till_0 : decode c_M_till 0 = .ok (.iload_n 1, 1) := by decide +kernel
theorem d_M_till_1 : decode c_M_till 1 = .ok (.invokestatic 114, 3) := by decide +kernel
theorem d_M_till_4 : decode c_M_till 4 = .ok (.ifCond .eq 12, 3) := by decide +kernel
theorem d_M_till_7 : decode c_M_till 7 = .ok (.aload_n 0, 1) := by decide +kernel
theorem d_M_till_8 : decode c_M_till 8 = .ok (.getfield 47, 3) := by decide +kernel
theorem d_M_till_11 : decode c_M_till 11 = .ok (.iload_n 1, 1) := by decide +kernel
theorem d_M_till_12 : decode c_M_till 12 = .ok (.laload, 1) := by decide +kernel
theorem d_M_till_13 : decode c_M_till 13 = .ok (.goto 6, 3) := by decide +kernel
theorem d_M_till_16 : decode c_M_till 16 = .ok (.ldc2_w 170, 3) := by decide +kernel
theorem d_M_till_19 : decode c_M_till 19 = .ok (.lreturn, 1) := by decide +kernel
theorem d_M_all_0 : decode c_M_all 0 = .ok (.iload_n 1, 1) := by decide +kernel
theorem d_M_all_1 : decode c_M_all 1 = .ok (.i2l, 1) := by decide +kernel
theorem d_M_all_2 : decode c_M_all 2 = .ok (.lconst 0, 1) := by decide +kernel
theorem d_M_all_3 : decode c_M_all 3 = .ok (.ldc2_w 172, 3) := by decide +kernel
theorem d_M_all_6 : decode c_M_all 6 = .ok (.invokestatic 102, 3) := by decide +kernel
theorem d_M_all_9 : decode c_M_all 9 = .ok (.ifCond .eq 12, 3) := by decide +kernel
theorem d_M_all_12 : decode c_M_all 12 = .ok (.aload_n 0, 1) := by decide +kernel
theorem d_M_all_13 : decode c_M_all 13 = .ok (.getfield 97, 3) := by decide +kernel
theorem d_M_all_16 : decode c_M_all 16 = .ok (.iload_n 1, 1) := by decide +kernel
theorem d_M_all_17 : decode c_M_all 17 = .ok (.laload, 1) := by decide +kernel
theorem d_M_all_18 : decode c_M_all 18 = .ok (.goto 6, 3) := by decide +kernel
theorem d_M_all_21 : decode c_M_all 21 = .ok (.ldc2_w 170, 3) := by decide +kernel
theorem d_M_all_24 : decode c_M_all 24 = .ok (.lreturn, 1) := by decide +kernel
