theorem d_M_tick_83 : decode c_M_tick 83 = .ok (.iconst 0, 1) := by decide +kernel
theorem d_M_tick_84 : decode c_M_tick 84 = .ok (.istore 5, 2) := by decide +kernel
theorem d_M_tick_86 : decode c_M_tick 86 = .ok (.iload 5, 2) := by decide +kernel
theorem d_M_tick_88 : decode c_M_tick 88 = .ok (.ifCond .eq 60, 3) := by decide +kernel
theorem d_M_tick_91 : decode c_M_tick 91 = .ok (.aload_n 0, 1) := by decide +kernel
theorem d_M_tick_92 : decode c_M_tick 92 = .ok (.getfield 47, 3) := by decide +kernel
theorem d_M_tick_95 : decode c_M_tick 95 = .ok (.aload_n 0, 1) := by decide +kernel
theorem d_M_tick_96 : decode c_M_tick 96 = .ok (.getfield 26, 3) := by decide +kernel
theorem d_M_tick_99 : decode c_M_tick 99 = .ok (.iload 4, 2) := by decide +kernel
theorem d_M_tick_101 : decode c_M_tick 101 = .ok (.iaload, 1) := by decide +kernel
theorem d_M_tick_102 : decode c_M_tick 102 = .ok (.dup2, 1) := by decide +kernel
theorem d_M_tick_103 : decode c_M_tick 103 = .ok (.laload, 1) := by decide +kernel
theorem d_M_tick_104 : decode c_M_tick 104 = .ok (.aload_n 0, 1) := by decide +kernel
theorem d_M_tick_105 : decode c_M_tick 105 = .ok (.getfield 13, 3) := by decide +kernel
theorem d_M_tick_108 : decode c_M_tick 108 = .ok (.iload 4, 2) := by decide +kernel
theorem d_M_tick_110 : decode c_M_tick 110 = .ok (.laload, 1) := by decide +kernel
theorem d_M_tick_111 : decode c_M_tick 111 = .ok (.lsub, 1) := by decide +kernel
theorem d_M_tick_112 : decode c_M_tick 112 = .ok (.lastore, 1) := by decide +kernel
theorem d_M_tick_113 : decode c_M_tick 113 = .ok (.aload_n 0, 1) := by decide +kernel
theorem d_M_tick_114 : decode c_M_tick 114 = .ok (.getfield 97, 3) := by decide +kernel
theorem d_M_tick_117 : decode c_M_tick 117 = .ok (.iconst 4, 1) := by decide +kernel
theorem d_M_tick_118 : decode c_M_tick 118 = .ok (.dup2, 1) := by decide +kernel
theorem d_M_tick_119 : decode c_M_tick 119 = .ok (.laload, 1) := by decide +kernel
theorem d_M_tick_120 : decode c_M_tick 120 = .ok (.aload_n 0, 1) := by decide +kernel
theorem d_M_tick_121 : decode c_M_tick 121 = .ok (.getfield 13, 3) := by decide +kernel
theorem d_M_tick_124 : decode c_M_tick 124 = .ok (.iload 4, 2) := by decide +kernel
theorem d_M_tick_126 : decode c_M_tick 126 = .ok (.laload, 1) := by decide +kernel
theorem d_M_tick_127 : decode c_M_tick 127 = .ok (.ladd, 1) := by decide +kernel
theorem d_M_tick_128 : decode c_M_tick 128 = .ok (.lastore, 1) := by decide +kernel
theorem d_M_tick_129 : decode c_M_tick 129 = .ok (.aload_n 0, 1) := by decide +kernel
theorem d_M_tick_130 : decode c_M_tick 130 = .ok (.getfield 7, 3) := by decide +kernel
theorem d_M_tick_133 : decode c_M_tick 133 = .ok (.iload 4, 2) := by decide +kernel
theorem d_M_tick_135 : decode c_M_tick 135 = .ok (.iconst 3, 1) := by decide +kernel
theorem d_M_tick_136 : decode c_M_tick 136 = .ok (.iastore, 1) := by decide +kernel
theorem d_M_tick_137 : decode c_M_tick 137 = .ok (.aload_n 0, 1) := by decide +kernel
theorem d_M_tick_138 : decode c_M_tick 138 = .ok (.getfield 32, 3) := by decide +kernel
theorem d_M_tick_141 : decode c_M_tick 141 = .ok (.iload 4, 2) := by decide +kernel
theorem d_M_tick_143 : decode c_M_tick 143 = .ok (.iconst (-1), 1) := by decide +kernel
theorem d_M_tick_144 : decode c_M_tick 144 = .ok (.iastore, 1) := by decide +kernel
theorem d_M_tick_145 : decode c_M_tick 145 = .ok (.iinc 3 1, 3) := by decide +kernel
theorem d_M_tick_148 : decode c_M_tick 148 = .ok (.iinc 4 1, 3) := by decide +kernel
theorem d_M_tick_151 : decode c_M_tick 151 = .ok (.goto (-137), 3) := by decide +kernel
theorem d_M_tick_154 : decode c_M_tick 154 = .ok (.iload_n 3, 1) := by decide +kernel
theorem d_M_tick_155 : decode c_M_tick 155 = .ok (.ireturn, 1) := by decide +kernel
theorem d_M_listed_0 : decode c_M_listed 0 = .ok (.iconst 0, 1) := by decide +kernel
theorem d_M_listed_1 : decode c_M_listed 1 = .ok (.istore_n 2, 1) := by decide +kernel
theorem d_M_listed_2 : decode c_M_listed 2 = .ok (.iconst 1, 1) := by decide +kernel
theorem d_M_listed_3 : decode c_M_listed 3 = .ok (.istore_n 3, 1) := by decide +kernel
theorem d_M_listed_4 : decode c_M_listed 4 = .ok (.iload_n 3, 1) := by decide +kernel
theorem d_M_listed_5 : decode c_M_listed 5 = .ok (.aload_n 0, 1) := by decide +kernel
theorem d_M_listed_6 : decode c_M_listed 6 = .ok (.getfield 106, 3) := by decide +kernel
theorem d_M_listed_9 : decode c_M_listed 9 = .ok (.if_icmp .gt 27, 3) := by decide +kernel
theorem d_M_listed_12 : decode c_M_listed 12 = .ok (.iload_n 2, 1) := by decide +kernel
theorem d_M_listed_13 : decode c_M_listed 13 = .ok (.aload_n 0, 1) := by decide +kernel
theorem d_M_listed_14 : decode c_M_listed 14 = .ok (.getfield 32, 3) := by decide +kernel
theorem d_M_listed_17 : decode c_M_listed 17 = .ok (.iload_n 3, 1) := by decide +kernel
theorem d_M_listed_18 : decode c_M_listed 18 = .ok (.iaload, 1) := by decide +kernel
theorem d_M_listed_19 : decode c_M_listed 19 = .ok (.iload_n 1, 1) := by decide +kernel
theorem d_M_listed_20 : decode c_M_listed 20 = .ok (.if_icmp .ne 7, 3) := by decide +kernel
theorem d_M_listed_23 : decode c_M_listed 23 = .ok (.iconst 1, 1) := by decide +kernel
theorem d_M_listed_24 : decode c_M_listed 24 = .ok (.goto 4, 3) := by decide +kernel
theorem d_M_listed_27 : decode c_M_listed 27 = .ok (.iconst 0, 1) := by decide +kernel
theorem d_M_listed_28 : decode c_M_listed 28 = .ok (.iadd, 1) := by decide +kernel
theorem d_M_listed_29 : decode c_M_listed 29 = .ok (.istore_n 2, 1) := by decide +kernel
theorem d_M_listed_30 : decode c_M_listed 30 = .ok (.iinc 3 1, 3) := by decide +kernel
theorem d_M_listed_33 : decode c_M_listed 33 = .ok (.goto (-29), 3) := by decide +kernel
theorem d_M_listed_36 : decode c_M_listed 36 = .ok (.iload_n 2, 1) := by decide +kernel
theorem d_M_listed_37 : decode c_M_listed 37 = .ok (.ireturn, 1) := by decide +kernel
theorem d_M_cut_0 : decode c_M_cut 0 = .ok (.iload_n 1, 1) := by decide +kernel
theorem d_M_cut_1 : decode c_M_cut 1 = .ok (.invokestatic 114, 3) := by decide +kernel
theorem d_M_cut_4 : decode c_M_cut 4 = .ok (.ifCond .ne 6, 3) := by decide +kernel
theorem d_M_cut_7 : decode c_M_cut 7 = .ok (.bipush (-102), 2) := by decide +kernel
theorem d_M_cut_9 : decode c_M_cut 9 = .ok (.ireturn, 1) := by decide +kernel
theorem d_M_cut_10 : decode c_M_cut 10 = .ok (.aload_n 0, 1) := by decide +kernel
theorem d_M_cut_11 : decode c_M_cut 11 = .ok (.getfield 55, 3) := by decide +kernel
theorem d_M_cut_14 : decode c_M_cut 14 = .ok (.iload_n 1, 1) := by decide +kernel
theorem d_M_cut_15 : decode c_M_cut 15 = .ok (.baload, 1) := by decide +kernel
theorem d_M_cut_16 : decode c_M_cut 16 = .ok (.iload_n 2, 1) := by decide +kernel
theorem d_M_cut_17 : decode c_M_cut 17 = .ok (.if_icmp .ne 5, 3) := by decide +kernel
theorem d_M_cut_20 : decode c_M_cut 20 = .ok (.iconst 0, 1) := by decide +kernel
theorem d_M_cut_21 : decode c_M_cut 21 = .ok (.ireturn, 1) := by decide +kernel
theorem d_M_cut_22 : decode c_M_cut 22 = .ok (.aload_n 0, 1) := by decide +kernel
theorem d_M_cut_23 : decode c_M_cut 23 = .ok (.getfield 55, 3) := by decide +kernel
theorem d_M_cut_26 : decode c_M_cut 26 = .ok (.iload_n 1, 1) := by decide +kernel
theorem d_M_cut_27 : decode c_M_cut 27 = .ok (.iload_n 2, 1) := by decide +kernel
theorem d_M_cut_28 : decode c_M_cut 28 = .ok (.bastore, 1) := by decide +kernel
theorem d_M_cut_29 : decode c_M_cut 29 = .ok (.iconst 1, 1) := by decide +kernel
theorem d_M_cut_30 : decode c_M_cut 30 = .ok (.istore_n 3, 1) := by decide +kernel
theorem d_M_cut_31 : decode c_M_cut 31 = .ok (.iload_n 3, 1) := by decide +kernel
theorem d_M_cut_32 : decode c_M_cut 32 = .ok (.aload_n 0, 1) := by decide +kernel
theorem d_M_cut_33 : decode c_M_cut 33 = .ok (.getfield 106, 3) := by decide +kernel
theorem d_M_cut_36 : decode c_M_cut 36 = .ok (.if_icmp .gt 39, 3) := by decide +kernel
theorem d_M_cut_39 : decode c_M_cut 39 = .ok (.iload_n 2, 1) := by decide +kernel
theorem d_M_cut_40 : decode c_M_cut 40 = .ok (.ifCond .ne 35, 3) := by decide +kernel
theorem d_M_cut_43 : decode c_M_cut 43 = .ok (.aload_n 0, 1) := by decide +kernel
theorem d_M_cut_44 : decode c_M_cut 44 = .ok (.getfield 32, 3) := by decide +kernel
theorem d_M_cut_47 : decode c_M_cut 47 = .ok (.iload_n 3, 1) := by decide +kernel
theorem d_M_cut_48 : decode c_M_cut 48 = .ok (.aload_n 0, 1) := by decide +kernel
theorem d_M_cut_49 : decode c_M_cut 49 = .ok (.getfield 32, 3) := by decide +kernel
theorem d_M_cut_52 : decode c_M_cut 52 = .ok (.iload_n 3, 1) := by decide +kernel
theorem d_M_cut_53 : decode c_M_cut 53 = .ok (.iaload, 1) := by decide +kernel
theorem d_M_cut_54 : decode c_M_cut 54 = .ok (.iload_n 1, 1) := by decide +kernel
theorem d_M_cut_55 : decode c_M_cut 55 = .ok (.if_icmp .ne 7, 3) := by decide +kernel
theorem d_M_cut_58 : decode c_M_cut 58 = .ok (.iconst (-1), 1) := by decide +kernel
theorem d_M_cut_59 : decode c_M_cut 59 = .ok (.goto 9, 3) := by decide +kernel
theorem d_M_cut_62 : decode c_M_cut 62 = .ok (.aload_n 0, 1) := by decide +kernel
theorem d_M_cut_63 : decode c_M_cut 63 = .ok (.getfield 32, 3) := by decide +kernel
theorem d_M_cut_66 : decode c_M_cut 66 = .ok (.iload_n 3, 1) := by decide +kernel
theorem d_M_cut_67 : decode c_M_cut 67 = .ok (.iaload, 1) := by decide +kernel
theorem d_M_cut_68 : decode c_M_cut 68 = .ok (.iastore, 1) := by decide +kernel
theorem d_M_cut_69 : decode c_M_cut 69 = .ok (.iinc 3 1, 3) := by decide +kernel
theorem d_M_cut_72 : decode c_M_cut 72 = .ok (.goto (-41), 3) := by decide +kernel
theorem d_M_cut_75 : decode c_M_cut 75 = .ok (.iconst 1, 1) := by decide +kernel
theorem d_M_cut_76 : decode c_M_cut 76 = .ok (.ireturn, 1) := by decide +kernel
theorem d_M_list_0 : decode c_M_list 0 = .ok (.aload_n 0, 1) := by decide +kernel
theorem d_M_list_1 : decode c_M_list 1 = .ok (.lload_n 2, 1) := by decide +kernel
theorem d_M_list_2 : decode c_M_list 2 = .ok (.invokevirtual 126, 3) := by decide +kernel
theorem d_M_list_5 : decode c_M_list 5 = .ok (.istore 4, 2) := by decide +kernel
theorem d_M_list_7 : decode c_M_list 7 = .ok (.iload 4, 2) := by decide +kernel
theorem d_M_list_9 : decode c_M_list 9 = .ok (.ifCond .ne 6, 3) := by decide +kernel
theorem d_M_list_12 : decode c_M_list 12 = .ok (.bipush (-101), 2) := by decide +kernel
theorem d_M_list_14 : decode c_M_list 14 = .ok (.ireturn, 1) := by decide +kernel
theorem d_M_list_15 : decode c_M_list 15 = .ok (.iload_n 1, 1) := by decide +kernel
theorem d_M_list_16 : decode c_M_list 16 = .ok (.invokestatic 114, 3) := by decide +kernel
theorem d_M_list_19 : decode c_M_list 19 = .ok (.ifCond .ne 6, 3) := by decide +kernel
theorem d_M_list_22 : decode c_M_list 22 = .ok (.bipush (-102), 2) := by decide +kernel
theorem d_M_list_24 : decode c_M_list 24 = .ok (.ireturn, 1) := by decide +kernel
theorem d_M_list_25 : decode c_M_list 25 = .ok (.aload_n 0, 1) := by decide +kernel
theorem d_M_list_26 : decode c_M_list 26 = .ok (.getfield 7, 3) := by decide +kernel
theorem d_M_list_29 : decode c_M_list 29 = .ok (.iload 4, 2) := by decide +kernel
theorem d_M_list_31 : decode c_M_list 31 = .ok (.iaload, 1) := by decide +kernel
theorem d_M_list_32 : decode c_M_list 32 = .ok (.ifCond .ne 23, 3) := by decide +kernel
theorem d_M_list_35 : decode c_M_list 35 = .ok (.aload_n 0, 1) := by decide +kernel
theorem d_M_list_36 : decode c_M_list 36 = .ok (.getfield 32, 3) := by decide +kernel
theorem d_M_list_39 : decode c_M_list 39 = .ok (.iload 4, 2) := by decide +kernel
theorem d_M_list_41 : decode c_M_list 41 = .ok (.iaload, 1) := by decide +kernel
theorem d_M_list_42 : decode c_M_list 42 = .ok (.iconst (-1), 1) := by decide +kernel
theorem d_M_list_43 : decode c_M_list 43 = .ok (.if_icmp .ne 12, 3) := by decide +kernel
theorem d_M_list_46 : decode c_M_list 46 = .ok (.aload_n 0, 1) := by decide +kernel
theorem d_M_list_47 : decode c_M_list 47 = .ok (.getfield 55, 3) := by decide +kernel
theorem d_M_list_50 : decode c_M_list 50 = .ok (.iload_n 1, 1) := by decide +kernel
theorem d_M_list_51 : decode c_M_list 51 = .ok (.baload, 1) := by decide +kernel
theorem d_M_list_52 : decode c_M_list 52 = .ok (.ifCond .eq 6, 3) := by decide +kernel
theorem d_M_list_55 : decode c_M_list 55 = .ok (.bipush (-103), 2) := by decide +kernel
theorem d_M_list_57 : decode c_M_list 57 = .ok (.ireturn, 1) := by decide +kernel
theorem d_M_list_58 : decode c_M_list 58 = .ok (.aload_n 0, 1) := by decide +kernel
theorem d_M_list_59 : decode c_M_list 59 = .ok (.iload_n 1, 1) := by decide +kernel
theorem d_M_list_60 : decode c_M_list 60 = .ok (.invokevirtual 154, 3) := by decide +kernel
theorem d_M_list_63 : decode c_M_list 63 = .ok (.bipush 8, 2) := by decide +kernel
theorem d_M_list_65 : decode c_M_list 65 = .ok (.if_icmp .ne 6, 3) := by decide +kernel
theorem d_M_list_68 : decode c_M_list 68 = .ok (.bipush (-104), 2) := by decide +kernel
theorem d_M_list_70 : decode c_M_list 70 = .ok (.ireturn, 1) := by decide +kernel
theorem d_M_list_71 : decode c_M_list 71 = .ok (.aload_n 0, 1) := by decide +kernel
theorem d_M_list_72 : decode c_M_list 72 = .ok (.getfield 32, 3) := by decide +kernel
theorem d_M_list_75 : decode c_M_list 75 = .ok (.iload 4, 2) := by decide +kernel
theorem d_M_list_77 : decode c_M_list 77 = .ok (.iload_n 1, 1) := by decide +kernel
theorem d_M_list_78 : decode c_M_list 78 = .ok (.iastore, 1) := by decide +kernel
theorem d_M_list_79 : decode c_M_list 79 = .ok (.aload_n 0, 1) := by decide +kernel
theorem d_M_list_80 : decode c_M_list 80 = .ok (.iload_n 1, 1) := by decide +kernel
theorem d_M_list_81 : decode c_M_list 81 = .ok (.invokevirtual 154, 3) := by decide +kernel
theorem d_M_list_84 : decode c_M_list 84 = .ok (.ireturn, 1) := by decide +kernel
theorem d_M_set_0 : decode c_M_set 0 = .ok (.iload_n 1, 1) := by decide +kernel
theorem d_M_set_1 : decode c_M_set 1 = .ok (.i2l, 1) := by decide +kernel
theorem d_M_set_2 : decode c_M_set 2 = .ok (.lconst 0, 1) := by decide +kernel
theorem d_M_set_3 : decode c_M_set 3 = .ok (.ldc2_w 157, 3) := by decide +kernel
theorem d_M_set_6 : decode c_M_set 6 = .ok (.invokestatic 102, 3) := by decide +kernel
theorem d_M_set_9 : decode c_M_set 9 = .ok (.ifCond .eq 69, 3) := by decide +kernel
theorem d_M_set_12 : decode c_M_set 12 = .ok (.iload_n 2, 1) := by decide +kernel
theorem d_M_set_13 : decode c_M_set 13 = .ok (.i2l, 1) := by decide +kernel
theorem d_M_set_14 : decode c_M_set 14 = .ok (.lconst 0, 1) := by decide +kernel
theorem d_M_set_15 : decode c_M_set 15 = .ok (.iload_n 1, 1) := by decide +kernel
theorem d_M_set_16 : decode c_M_set 16 = .ok (.iconst 2, 1) := by decide +kernel
theorem d_M_set_17 : decode c_M_set 17 = .ok (.if_icmp .ne 9, 3) := by decide +kernel
theorem d_M_set_20 : decode c_M_set 20 = .ok (.ldc2_w 120, 3) := by decide +kernel
theorem d_M_set_23 : decode c_M_set 23 = .ok (.goto 6, 3) := by decide +kernel
theorem d_M_set_26 : decode c_M_set 26 = .ok (.ldc2_w 100, 3) := by decide +kernel
theorem d_M_set_29 : decode c_M_set 29 = .ok (.invokestatic 102, 3) := by decide +kernel
theorem d_M_set_32 : decode c_M_set 32 = .ok (.ifCond .eq 46, 3) := by decide +kernel
theorem d_M_set_35 : decode c_M_set 35 = .ok (.lload_n 3, 1) := by decide +kernel
theorem d_M_set_36 : decode c_M_set 36 = .ok (.iload_n 1, 1) := by decide +kernel
theorem d_M_set_37 : decode c_M_set 37 = .ok (.ifCond .ne 9, 3) := by decide +kernel
theorem d_M_set_40 : decode c_M_set 40 = .ok (.ldc2_w 159, 3) := by decide +kernel
theorem d_M_set_43 : decode c_M_set 43 = .ok (.goto 15, 3) := by decide +kernel
theorem d_M_set_46 : decode c_M_set 46 = .ok (.iload_n 1, 1) := by decide +kernel
theorem d_M_set_47 : decode c_M_set 47 = .ok (.iconst 1, 1) := by decide +kernel
theorem d_M_set_48 : decode c_M_set 48 = .ok (.if_icmp .ne 9, 3) := by decide +kernel
theorem d_M_set_51 : decode c_M_set 51 = .ok (.ldc2_w 50, 3) := by decide +kernel
theorem d_M_set_54 : decode c_M_set 54 = .ok (.goto 4, 3) := by decide +kernel
theorem d_M_set_57 : decode c_M_set 57 = .ok (.lconst 1, 1) := by decide +kernel
theorem d_M_set_58 : decode c_M_set 58 = .ok (.iload_n 1, 1) := by decide +kernel
theorem d_M_set_59 : decode c_M_set 59 = .ok (.iconst 2, 1) := by decide +kernel
theorem d_M_set_60 : decode c_M_set 60 = .ok (.if_icmp .ne 9, 3) := by decide +kernel
theorem d_M_set_63 : decode c_M_set 63 = .ok (.ldc2_w 161, 3) := by decide +kernel
theorem d_M_set_66 : decode c_M_set 66 = .ok (.goto 6, 3) := by decide +kernel
theorem d_M_set_69 : decode c_M_set 69 = .ok (.ldc2_w 163, 3) := by decide +kernel
theorem d_M_set_72 : decode c_M_set 72 = .ok (.invokestatic 102, 3) := by decide +kernel
theorem d_M_set_75 : decode c_M_set 75 = .ok (.ifCond .ne 6, 3) := by decide +kernel
theorem d_M_set_78 : decode c_M_set 78 = .ok (.bipush (-102), 2) := by decide +kernel
theorem d_M_set_80 : decode c_M_set 80 = .ok (.ireturn, 1) := by decide +kernel
theorem d_M_set_81 : decode c_M_set 81 = .ok (.iload_n 1, 1) := by decide +kernel
theorem d_M_set_82 : decode c_M_set 82 = .ok (.ifCond .ne 19, 3) := by decide +kernel
theorem d_M_set_85 : decode c_M_set 85 = .ok (.aload_n 0, 1) := by decide +kernel
theorem d_M_set_86 : decode c_M_set 86 = .ok (.getfield 47, 3) := by decide +kernel
theorem d_M_set_89 : decode c_M_set 89 = .ok (.iload_n 2, 1) := by decide +kernel
theorem d_M_set_90 : decode c_M_set 90 = .ok (.laload, 1) := by decide +kernel
theorem d_M_set_91 : decode c_M_set 91 = .ok (.lload_n 3, 1) := by decide +kernel
theorem d_M_set_92 : decode c_M_set 92 = .ok (.ladd, 1) := by decide +kernel
theorem d_M_set_93 : decode c_M_set 93 = .ok (.lconst 0, 1) := by decide +kernel
theorem d_M_set_94 : decode c_M_set 94 = .ok (.lcmp, 1) := by decide +kernel
theorem d_M_set_95 : decode c_M_set 95 = .ok (.ifCond .ge 6, 3) := by decide +kernel
theorem d_M_set_98 : decode c_M_set 98 = .ok (.bipush (-103), 2) := by decide +kernel
theorem d_M_set_100 : decode c_M_set 100 = .ok (.ireturn, 1) := by decide +kernel
theorem d_M_set_101 : decode c_M_set 101 = .ok (.iload_n 1, 1) := by decide +kernel
theorem d_M_set_102 : decode c_M_set 102 = .ok (.ifCond .ne 26, 3) := by decide +kernel
theorem d_M_set_105 : decode c_M_set 105 = .ok (.aload_n 0, 1) := by decide +kernel
theorem d_M_set_106 : decode c_M_set 106 = .ok (.getfield 47, 3) := by decide +kernel
theorem d_M_set_109 : decode c_M_set 109 = .ok (.iload_n 2, 1) := by decide +kernel
theorem d_M_set_110 : decode c_M_set 110 = .ok (.dup2, 1) := by decide +kernel
theorem d_M_set_111 : decode c_M_set 111 = .ok (.laload, 1) := by decide +kernel
theorem d_M_set_112 : decode c_M_set 112 = .ok (.lload_n 3, 1) := by decide +kernel
theorem d_M_set_113 : decode c_M_set 113 = .ok (.ladd, 1) := by decide +kernel
theorem d_M_set_114 : decode c_M_set 114 = .ok (.lastore, 1) := by decide +kernel
theorem d_M_set_115 : decode c_M_set 115 = .ok (.aload_n 0, 1) := by decide +kernel
theorem d_M_set_116 : decode c_M_set 116 = .ok (.getfield 97, 3) := by decide +kernel
theorem d_M_set_119 : decode c_M_set 119 = .ok (.iconst 5, 1) := by decide +kernel
theorem d_M_set_120 : decode c_M_set 120 = .ok (.dup2, 1) := by decide +kernel
theorem d_M_set_121 : decode c_M_set 121 = .ok (.laload, 1) := by decide +kernel
theorem d_M_set_122 : decode c_M_set 122 = .ok (.lload_n 3, 1) := by decide +kernel
theorem d_M_set_123 : decode c_M_set 123 = .ok (.ladd, 1) := by decide +kernel
theorem d_M_set_124 : decode c_M_set 124 = .ok (.lastore, 1) := by decide +kernel
theorem d_M_set_125 : decode c_M_set 125 = .ok (.goto 25, 3) := by decide +kernel
theorem d_M_set_128 : decode c_M_set 128 = .ok (.iload_n 1, 1) := by decide +kernel
theorem d_M_set_129 : decode c_M_set 129 = .ok (.iconst 1, 1) := by decide +kernel
theorem d_M_set_130 : decode c_M_set 130 = .ok (.if_icmp .ne 13, 3) := by decide +kernel
theorem d_M_set_133 : decode c_M_set 133 = .ok (.aload_n 0, 1) := by decide +kernel
theorem d_M_set_134 : decode c_M_set 134 = .ok (.getfield 52, 3) := by decide +kernel
theorem d_M_set_137 : decode c_M_set 137 = .ok (.iload_n 2, 1) := by decide +kernel
theorem d_M_set_138 : decode c_M_set 138 = .ok (.lload_n 3, 1) := by decide +kernel
theorem d_M_set_139 : decode c_M_set 139 = .ok (.lastore, 1) := by decide +kernel
theorem d_M_set_140 : decode c_M_set 140 = .ok (.goto 10, 3) := by decide +kernel
theorem d_M_set_143 : decode c_M_set 143 = .ok (.aload_n 0, 1) := by decide +kernel
theorem d_M_set_144 : decode c_M_set 144 = .ok (.getfield 44, 3) := by decide +kernel
theorem d_M_set_147 : decode c_M_set 147 = .ok (.iload_n 2, 1) := by decide +kernel
theorem d_M_set_148 : decode c_M_set 148 = .ok (.lload_n 3, 1) := by decide +kernel
theorem d_M_set_149 : decode c_M_set 149 = .ok (.lastore, 1) := by decide +kernel
theorem d_M_set_150 : decode c_M_set 150 = .ok (.iconst 1, 1) := by decide +kernel
theorem d_M_set_151 : decode c_M_set 151 = .ok (.ireturn, 1) := by decide +kernel
theorem d_M_collect_0 : decode c_M_collect 0 = .ok (.iload_n 1, 1) := by decide +kernel
theorem d_M_collect_1 : decode c_M_collect 1 = .ok (.invokestatic 114, 3) := by decide +kernel
theorem d_M_collect_4 : decode c_M_collect 4 = .ok (.ifCond .eq 27, 3) := by decide +kernel
theorem d_M_collect_7 : decode c_M_collect 7 = .ok (.lload_n 2, 1) := by decide +kernel
theorem d_M_collect_8 : decode c_M_collect 8 = .ok (.lconst 1, 1) := by decide +kernel
theorem d_M_collect_9 : decode c_M_collect 9 = .ok (.ldc2_w 118, 3) := by decide +kernel
theorem d_M_collect_12 : decode c_M_collect 12 = .ok (.invokestatic 102, 3) := by decide +kernel
theorem d_M_collect_15 : decode c_M_collect 15 = .ok (.ifCond .eq 16, 3) := by decide +kernel
theorem d_M_collect_18 : decode c_M_collect 18 = .ok (.iload 4, 2) := by decide +kernel
theorem d_M_collect_20 : decode c_M_collect 20 = .ok (.i2l, 1) := by decide +kernel
theorem d_M_collect_21 : decode c_M_collect 21 = .ok (.lconst 0, 1) := by decide +kernel
theorem d_M_collect_22 : decode c_M_collect 22 = .ok (.ldc2_w 165, 3) := by decide +kernel
theorem d_M_collect_25 : decode c_M_collect 25 = .ok (.invokestatic 102, 3) := by decide +kernel
theorem d_M_collect_28 : decode c_M_collect 28 = .ok (.ifCond .ne 6, 3) := by decide +kernel
theorem d_M_collect_31 : decode c_M_collect 31 = .ok (.bipush (-102), 2) := by decide +kernel
theorem d_M_collect_33 : decode c_M_collect 33 = .ok (.ireturn, 1) := by decide +kernel
theorem d_M_collect_34 : decode c_M_collect 34 = .ok (.aload_n 0, 1) := by decide +kernel
theorem d_M_collect_35 : decode c_M_collect 35 = .ok (.getfield 167, 3) := by decide +kernel
theorem d_M_collect_38 : decode c_M_collect 38 = .ok (.bipush 100, 2) := by decide +kernel
theorem d_M_collect_40 : decode c_M_collect 40 = .ok (.if_icmp .ne 6, 3) := by decide +kernel
theorem d_M_collect_43 : decode c_M_collect 43 = .ok (.bipush (-104), 2) := by decide +kernel
theorem d_M_collect_45 : decode c_M_collect 45 = .ok (.ireturn, 1) := by decide +kernel
theorem d_M_collect_46 : decode c_M_collect 46 = .ok (.aload_n 0, 1) := by decide +kernel
theorem d_M_collect_47 : decode c_M_collect 47 = .ok (.getfield 88, 3) := by decide +kernel
theorem d_M_collect_50 : decode c_M_collect 50 = .ok (.aload_n 0, 1) := by decide +kernel
theorem d_M_collect_51 : decode c_M_collect 51 = .ok (.getfield 167, 3) := by decide +kernel
theorem d_M_collect_54 : decode c_M_collect 54 = .ok (.iload_n 1, 1) := by decide +kernel
theorem d_M_collect_55 : decode c_M_collect 55 = .ok (.iastore, 1) := by decide +kernel
theorem d_M_collect_56 : decode c_M_collect 56 = .ok (.aload_n 0, 1) := by decide +kernel
theorem d_M_collect_57 : decode c_M_collect 57 = .ok (.getfield 91, 3) := by decide +kernel
theorem d_M_collect_60 : decode c_M_collect 60 = .ok (.aload_n 0, 1) := by decide +kernel
theorem d_M_collect_61 : decode c_M_collect 61 = .ok (.getfield 167, 3) := by decide +kernel
theorem d_M_collect_64 : decode c_M_collect 64 = .ok (.lload_n 2, 1) := by decide +kernel
theorem d_M_collect_65 : decode c_M_collect 65 = .ok (.lastore, 1) := by decide +kernel
theorem d_M_collect_66 : decode c_M_collect 66 = .ok (.aload_n 0, 1) := by decide +kernel
theorem d_M_collect_67 : decode c_M_collect 67 = .ok (.getfield 94, 3) := by decide +kernel
theorem d_M_collect_70 : decode c_M_collect 70 = .ok (.aload_n 0, 1) := by decide +kernel
theorem d_M_collect_71 : decode c_M_collect 71 = .ok (.getfield 167, 3) := by decide +kernel
theorem d_M_collect_74 : decode c_M_collect 74 = .ok (.iload 4, 2) := by decide +kernel
theorem d_M_collect_76 : decode c_M_collect 76 = .ok (.iastore, 1) := by decide +kernel
theorem d_M_collect_77 : decode c_M_collect 77 = .ok (.aload_n 0, 1) := by decide +kernel
theorem d_M_collect_78 : decode c_M_collect 78 = .ok (.dup, 1) := by decide +kernel
theorem d_M_collect_79 : decode c_M_collect 79 = .ok (.getfield 167, 3) := by decide +kernel
theorem d_M_collect_82 : decode c_M_collect 82 = .ok (.iconst 1, 1) := by decide +kernel
theorem d_M_collect_83 : decode c_M_collect 83 = .ok (.iadd, 1) := by decide +kernel
theorem d_M_collect_84 : decode c_M_collect 84 = .ok (.putfield 167, 3) := by decide +kernel
theorem d_M_collect_87 : decode c_M_collect 87 = .ok (.aload_n 0, 1) := by decide +kernel
theorem d_M_collect_88 : decode c_M_collect 88 = .ok (.getfield 47, 3) := by decide +kernel
theorem d_M_collect_91 : decode c_M_collect 91 = .ok (.iload_n 1, 1) := by decide +kernel
theorem d_M_collect_92 : decode c_M_collect 92 = .ok (.dup2, 1) := by decide +kernel
theorem d_M_collect_93 : decode c_M_collect 93 = .ok (.laload, 1) := by decide +kernel
theorem d_M_collect_94 : decode c_M_collect 94 = .ok (.lload_n 2, 1) := by decide +kernel
theorem d_M_collect_95 : decode c_M_collect 95 = .ok (.ladd, 1) := by decide +kernel
theorem d_M_collect_96 : decode c_M_collect 96 = .ok (.lastore, 1) := by decide +kernel
theorem d_M_collect_97 : decode c_M_collect 97 = .ok (.aload_n 0, 1) := by decide +kernel
theorem d_M_collect_98 : decode c_M_collect 98 = .ok (.getfield 97, 3) := by decide +kernel
theorem d_M_collect_101 : decode c_M_collect 101 = .ok (.iconst 2, 1) := by decide +kernel
theorem d_M_collect_102 : decode c_M_collect 102 = .ok (.dup2, 1) := by decide +kernel
theorem d_M_collect_103 : decode c_M_collect 103 = .ok (.laload, 1) := by decide +kernel
theorem d_M_collect_104 : decode c_M_collect 104 = .ok (.lload_n 2, 1) := by decide +kernel
theorem d_M_collect_105 : decode c_M_collect 105 = .ok (.ladd, 1) := by decide +kernel
theorem d_M_collect_106 : decode c_M_collect 106 = .ok (.lastore, 1) := by decide +kernel
theorem d_M_collect_107 : decode c_M_collect 107 = .ok (.aload_n 0, 1) := by decide +kernel
theorem d_M_collect_108 : decode c_M_collect 108 = .ok (.getfield 167, 3) := by decide +kernel
theorem d_M_collect_111 : decode c_M_collect 111 = .ok (.ireturn, 1) := by decide +kernel
theorem d_M_pass_0 : decode c_M_pass 0 = .ok (.iload_n 1, 1) := by decide +kernel
theorem d_M_pass_1 : decode c_M_pass 1 = .ok (.i2l, 1) := by decide +kernel
theorem d_M_pass_2 : decode c_M_pass 2 = .ok (.lconst 0, 1) := by decide +kernel
theorem d_M_pass_3 : decode c_M_pass 3 = .ok (.ldc2_w 165, 3) := by decide +kernel
theorem d_M_pass_6 : decode c_M_pass 6 = .ok (.invokestatic 102, 3) := by decide +kernel
theorem d_M_pass_9 : decode c_M_pass 9 = .ok (.ifCond .ne 6, 3) := by decide +kernel
theorem d_M_pass_12 : decode c_M_pass 12 = .ok (.bipush (-102), 2) := by decide +kernel
theorem d_M_pass_14 : decode c_M_pass 14 = .ok (.ireturn, 1) := by decide +kernel
theorem d_M_pass_15 : decode c_M_pass 15 = .ok (.iconst 0, 1) := by decide +kernel
theorem d_M_pass_16 : decode c_M_pass 16 = .ok (.istore_n 2, 1) := by decide +kernel
theorem d_M_pass_17 : decode c_M_pass 17 = .ok (.iconst 0, 1) := by decide +kernel
theorem d_M_pass_18 : decode c_M_pass 18 = .ok (.istore_n 3, 1) := by decide +kernel
theorem d_M_pass_19 : decode c_M_pass 19 = .ok (.iconst 0, 1) := by decide +kernel
theorem d_M_pass_20 : decode c_M_pass 20 = .ok (.istore 4, 2) := by decide +kernel
theorem d_M_pass_22 : decode c_M_pass 22 = .ok (.iload 4, 2) := by decide +kernel
theorem d_M_pass_24 : decode c_M_pass 24 = .ok (.aload_n 0, 1) := by decide +kernel
theorem d_M_pass_25 : decode c_M_pass 25 = .ok (.getfield 167, 3) := by decide +kernel
theorem d_M_pass_28 : decode c_M_pass 28 = .ok (.if_icmp .ge 129, 3) := by decide +kernel
theorem d_M_pass_31 : decode c_M_pass 31 = .ok (.aload_n 0, 1) := by decide +kernel
theorem d_M_pass_32 : decode c_M_pass 32 = .ok (.getfield 94, 3) := by decide +kernel
theorem d_M_pass_35 : decode c_M_pass 35 = .ok (.iload 4, 2) := by decide +kernel
theorem d_M_pass_37 : decode c_M_pass 37 = .ok (.iaload, 1) := by decide +kernel
theorem d_M_pass_38 : decode c_M_pass 38 = .ok (.iload_n 1, 1) := by decide +kernel
theorem d_M_pass_39 : decode c_M_pass 39 = .ok (.if_icmp .gt 70, 3) := by decide +kernel
theorem d_M_pass_42 : decode c_M_pass 42 = .ok (.aload_n 0, 1) := by decide +kernel
theorem d_M_pass_43 : decode c_M_pass 43 = .ok (.getfield 47, 3) := by decide +kernel
theorem d_M_pass_46 : decode c_M_pass 46 = .ok (.aload_n 0, 1) := by decide +kernel
theorem d_M_pass_47 : decode c_M_pass 47 = .ok (.getfield 88, 3) := by decide +kernel
theorem d_M_pass_50 : decode c_M_pass 50 = .ok (.iload 4, 2) := by decide +kernel
theorem d_M_pass_52 : decode c_M_pass 52 = .ok (.iaload, 1) := by decide +kernel
theorem d_M_pass_53 : decode c_M_pass 53 = .ok (.laload, 1) := by decide +kernel
theorem d_M_pass_54 : decode c_M_pass 54 = .ok (.aload_n 0, 1) := by decide +kernel
theorem d_M_pass_55 : decode c_M_pass 55 = .ok (.getfield 91, 3) := by decide +kernel
theorem d_M_pass_58 : decode c_M_pass 58 = .ok (.iload 4, 2) := by decide +kernel
theorem d_M_pass_60 : decode c_M_pass 60 = .ok (.laload, 1) := by decide +kernel
theorem d_M_pass_61 : decode c_M_pass 61 = .ok (.lcmp, 1) := by decide +kernel
theorem d_M_pass_62 : decode c_M_pass 62 = .ok (.ifCond .lt 47, 3) := by decide +kernel
theorem d_M_pass_65 : decode c_M_pass 65 = .ok (.aload_n 0, 1) := by decide +kernel
