theorem d_X_changeTill_38 : decode c_X_changeTill 38 = .ok (.dup, 1) := by decide +kernel
theorem d_X_changeTill_39 : decode c_X_changeTill 39 = .ok (.getfield 63, 3) := by decide +kernel
theorem d_X_changeTill_42 : decode c_X_changeTill 42 = .ok (.lload_n 2, 1) := by decide +kernel
theorem d_X_changeTill_43 : decode c_X_changeTill 43 = .ok (.ladd, 1) := by decide +kernel
theorem d_X_changeTill_44 : decode c_X_changeTill 44 = .ok (.putfield 63, 3) := by decide +kernel
theorem d_X_changeTill_47 : decode c_X_changeTill 47 = .ok (.aload_n 0, 1) := by decide +kernel
theorem d_X_changeTill_48 : decode c_X_changeTill 48 = .ok (.getfield 39, 3) := by decide +kernel
theorem d_X_changeTill_51 : decode c_X_changeTill 51 = .ok (.iconst 5, 1) := by decide +kernel
theorem d_X_changeTill_52 : decode c_X_changeTill 52 = .ok (.dup2, 1) := by decide +kernel
theorem d_X_changeTill_53 : decode c_X_changeTill 53 = .ok (.laload, 1) := by decide +kernel
theorem d_X_changeTill_54 : decode c_X_changeTill 54 = .ok (.lload_n 2, 1) := by decide +kernel
theorem d_X_changeTill_55 : decode c_X_changeTill 55 = .ok (.ladd, 1) := by decide +kernel
theorem d_X_changeTill_56 : decode c_X_changeTill 56 = .ok (.lastore, 1) := by decide +kernel
theorem d_X_changeTill_57 : decode c_X_changeTill 57 = .ok (.iconst 1, 1) := by decide +kernel
theorem d_X_changeTill_58 : decode c_X_changeTill 58 = .ok (.ireturn, 1) := by decide +kernel
theorem d_X_changeLimit_0 : decode c_X_changeLimit 0 = .ok (.aload_n 0, 1) := by decide +kernel
theorem d_X_changeLimit_1 : decode c_X_changeLimit 1 = .ok (.ifnull 19, 3) := by decide +kernel
theorem d_X_changeLimit_4 : decode c_X_changeLimit 4 = .ok (.lload_n 1, 1) := by decide +kernel
theorem d_X_changeLimit_5 : decode c_X_changeLimit 5 = .ok (.ldc2_w 214, 3) := by decide +kernel
theorem d_X_changeLimit_8 : decode c_X_changeLimit 8 = .ok (.lcmp, 1) := by decide +kernel
theorem d_X_changeLimit_9 : decode c_X_changeLimit 9 = .ok (.ifCond .lt 11, 3) := by decide +kernel
theorem d_X_changeLimit_12 : decode c_X_changeLimit 12 = .ok (.lload_n 1, 1) := by decide +kernel
theorem d_X_changeLimit_13 : decode c_X_changeLimit 13 = .ok (.ldc2_w 265, 3) := by decide +kernel
theorem d_X_changeLimit_16 : decode c_X_changeLimit 16 = .ok (.lcmp, 1) := by decide +kernel
theorem d_X_changeLimit_17 : decode c_X_changeLimit 17 = .ok (.ifCond .le 6, 3) := by decide +kernel
theorem d_X_changeLimit_20 : decode c_X_changeLimit 20 = .ok (.bipush (-102), 2) := by decide +kernel
theorem d_X_changeLimit_22 : decode c_X_changeLimit 22 = .ok (.ireturn, 1) := by decide +kernel
theorem d_X_changeLimit_23 : decode c_X_changeLimit 23 = .ok (.aload_n 0, 1) := by decide +kernel
theorem d_X_changeLimit_24 : decode c_X_changeLimit 24 = .ok (.lload_n 1, 1) := by decide +kernel
theorem d_X_changeLimit_25 : decode c_X_changeLimit 25 = .ok (.putfield 267, 3) := by decide +kernel
theorem d_X_changeLimit_28 : decode c_X_changeLimit 28 = .ok (.iconst 1, 1) := by decide +kernel
theorem d_X_changeLimit_29 : decode c_X_changeLimit 29 = .ok (.ireturn, 1) := by decide +kernel
theorem d_X_changeRate_0 : decode c_X_changeRate 0 = .ok (.aload_n 0, 1) := by decide +kernel
theorem d_X_changeRate_1 : decode c_X_changeRate 1 = .ok (.ifnull 17, 3) := by decide +kernel
theorem d_X_changeRate_4 : decode c_X_changeRate 4 = .ok (.lload_n 1, 1) := by decide +kernel
theorem d_X_changeRate_5 : decode c_X_changeRate 5 = .ok (.lconst 1, 1) := by decide +kernel
theorem d_X_changeRate_6 : decode c_X_changeRate 6 = .ok (.lcmp, 1) := by decide +kernel
theorem d_X_changeRate_7 : decode c_X_changeRate 7 = .ok (.ifCond .lt 11, 3) := by decide +kernel
theorem d_X_changeRate_10 : decode c_X_changeRate 10 = .ok (.lload_n 1, 1) := by decide +kernel
theorem d_X_changeRate_11 : decode c_X_changeRate 11 = .ok (.ldc2_w 270, 3) := by decide +kernel
theorem d_X_changeRate_14 : decode c_X_changeRate 14 = .ok (.lcmp, 1) := by decide +kernel
theorem d_X_changeRate_15 : decode c_X_changeRate 15 = .ok (.ifCond .le 6, 3) := by decide +kernel
theorem d_X_changeRate_18 : decode c_X_changeRate 18 = .ok (.bipush (-102), 2) := by decide +kernel
theorem d_X_changeRate_20 : decode c_X_changeRate 20 = .ok (.ireturn, 1) := by decide +kernel
theorem d_X_changeRate_21 : decode c_X_changeRate 21 = .ok (.aload_n 0, 1) := by decide +kernel
theorem d_X_changeRate_22 : decode c_X_changeRate 22 = .ok (.lload_n 1, 1) := by decide +kernel
theorem d_X_changeRate_23 : decode c_X_changeRate 23 = .ok (.putfield 272, 3) := by decide +kernel
theorem d_X_changeRate_26 : decode c_X_changeRate 26 = .ok (.iconst 1, 1) := by decide +kernel
theorem d_X_changeRate_27 : decode c_X_changeRate 27 = .ok (.ireturn, 1) := by decide +kernel
theorem d_X_set_0 : decode c_X_set 0 = .ok (.iload_n 1, 1) := by decide +kernel
theorem d_X_set_1 : decode c_X_set 1 = .ok (.tableswitch 58 0 2 #[27, 38, 48], 27) := by decide +kernel
theorem d_X_set_28 : decode c_X_set 28 = .ok (.aload_n 0, 1) := by decide +kernel
theorem d_X_set_29 : decode c_X_set 29 = .ok (.aload_n 0, 1) := by decide +kernel
theorem d_X_set_30 : decode c_X_set 30 = .ok (.iload_n 2, 1) := by decide +kernel
theorem d_X_set_31 : decode c_X_set 31 = .ok (.invokevirtual 47, 3) := by decide +kernel
theorem d_X_set_34 : decode c_X_set 34 = .ok (.lload_n 3, 1) := by decide +kernel
theorem d_X_set_35 : decode c_X_set 35 = .ok (.invokevirtual 171, 3) := by decide +kernel
theorem d_X_set_38 : decode c_X_set 38 = .ok (.ireturn, 1) := by decide +kernel
theorem d_X_set_39 : decode c_X_set 39 = .ok (.aload_n 0, 1) := by decide +kernel
theorem d_X_set_40 : decode c_X_set 40 = .ok (.iload_n 2, 1) := by decide +kernel
theorem d_X_set_41 : decode c_X_set 41 = .ok (.invokevirtual 47, 3) := by decide +kernel
theorem d_X_set_44 : decode c_X_set 44 = .ok (.lload_n 3, 1) := by decide +kernel
theorem d_X_set_45 : decode c_X_set 45 = .ok (.invokestatic 175, 3) := by decide +kernel
theorem d_X_set_48 : decode c_X_set 48 = .ok (.ireturn, 1) := by decide +kernel
theorem d_X_set_49 : decode c_X_set 49 = .ok (.aload_n 0, 1) := by decide +kernel
theorem d_X_set_50 : decode c_X_set 50 = .ok (.iload_n 2, 1) := by decide +kernel
theorem d_X_set_51 : decode c_X_set 51 = .ok (.invokevirtual 51, 3) := by decide +kernel
theorem d_X_set_54 : decode c_X_set 54 = .ok (.lload_n 3, 1) := by decide +kernel
theorem d_X_set_55 : decode c_X_set 55 = .ok (.invokestatic 178, 3) := by decide +kernel
theorem d_X_set_58 : decode c_X_set 58 = .ok (.ireturn, 1) := by decide +kernel
theorem d_X_set_59 : decode c_X_set 59 = .ok (.bipush (-102), 2) := by decide +kernel
theorem d_X_set_61 : decode c_X_set 61 = .ok (.ireturn, 1) := by decide +kernel
theorem d_X_isCollectDay_0 : decode c_X_isCollectDay 0 = .ok (.iload_n 0, 1) := by decide +kernel
theorem d_X_isCollectDay_1 : decode c_X_isCollectDay 1 = .ok (.ifCond .lt 14, 3) := by decide +kernel
theorem d_X_isCollectDay_4 : decode c_X_isCollectDay 4 = .ok (.iload_n 0, 1) := by decide +kernel
theorem d_X_isCollectDay_5 : decode c_X_isCollectDay 5 = .ok (.sipush 9999, 3) := by decide +kernel
theorem d_X_isCollectDay_8 : decode c_X_isCollectDay 8 = .ok (.if_icmp .gt 7, 3) := by decide +kernel
theorem d_X_isCollectDay_11 : decode c_X_isCollectDay 11 = .ok (.iconst 1, 1) := by decide +kernel
theorem d_X_isCollectDay_12 : decode c_X_isCollectDay 12 = .ok (.goto 4, 3) := by decide +kernel
theorem d_X_isCollectDay_15 : decode c_X_isCollectDay 15 = .ok (.iconst 0, 1) := by decide +kernel
theorem d_X_isCollectDay_16 : decode c_X_isCollectDay 16 = .ok (.ireturn, 1) := by decide +kernel
theorem d_Collected_init_0 : decode c_Collected_init 0 = .ok (.aload_n 0, 1) := by decide +kernel
theorem d_Collected_init_1 : decode c_Collected_init 1 = .ok (.invokespecial 1, 3) := by decide +kernel
theorem d_Collected_init_4 : decode c_Collected_init 4 = .ok (.aload_n 0, 1) := by decide +kernel
theorem d_Collected_init_5 : decode c_Collected_init 5 = .ok (.aload_n 1, 1) := by decide +kernel
theorem d_Collected_init_6 : decode c_Collected_init 6 = .ok (.putfield 7, 3) := by decide +kernel
theorem d_Collected_init_9 : decode c_Collected_init 9 = .ok (.aload_n 0, 1) := by decide +kernel
theorem d_Collected_init_10 : decode c_Collected_init 10 = .ok (.lload_n 2, 1) := by decide +kernel
theorem d_Collected_init_11 : decode c_Collected_init 11 = .ok (.putfield 13, 3) := by decide +kernel
theorem d_Collected_init_14 : decode c_Collected_init 14 = .ok (.aload_n 0, 1) := by decide +kernel
theorem d_Collected_init_15 : decode c_Collected_init 15 = .ok (.iload 4, 2) := by decide +kernel
theorem d_Collected_init_17 : decode c_Collected_init 17 = .ok (.putfield 17, 3) := by decide +kernel
theorem d_Collected_init_20 : decode c_Collected_init 20 = .ok (.return_, 1) := by decide +kernel
theorem d_X_collect_0 : decode c_X_collect 0 = .ok (.aload_n 0, 1) := by decide +kernel
theorem d_X_collect_1 : decode c_X_collect 1 = .ok (.iload_n 1, 1) := by decide +kernel
theorem d_X_collect_2 : decode c_X_collect 2 = .ok (.invokevirtual 47, 3) := by decide +kernel
theorem d_X_collect_5 : decode c_X_collect 5 = .ok (.astore 5, 2) := by decide +kernel
theorem d_X_collect_7 : decode c_X_collect 7 = .ok (.aload 5, 2) := by decide +kernel
theorem d_X_collect_9 : decode c_X_collect 9 = .ok (.ifnull 18, 3) := by decide +kernel
theorem d_X_collect_12 : decode c_X_collect 12 = .ok (.lload_n 2, 1) := by decide +kernel
theorem d_X_collect_13 : decode c_X_collect 13 = .ok (.invokestatic 55, 3) := by decide +kernel
theorem d_X_collect_16 : decode c_X_collect 16 = .ok (.ifCond .eq 11, 3) := by decide +kernel
theorem d_X_collect_19 : decode c_X_collect 19 = .ok (.iload 4, 2) := by decide +kernel
theorem d_X_collect_21 : decode c_X_collect 21 = .ok (.invokestatic 182, 3) := by decide +kernel
theorem d_X_collect_24 : decode c_X_collect 24 = .ok (.ifCond .ne 6, 3) := by decide +kernel
theorem d_X_collect_27 : decode c_X_collect 27 = .ok (.bipush (-102), 2) := by decide +kernel
theorem d_X_collect_29 : decode c_X_collect 29 = .ok (.ireturn, 1) := by decide +kernel
theorem d_X_collect_30 : decode c_X_collect 30 = .ok (.aload_n 0, 1) := by decide +kernel
theorem d_X_collect_31 : decode c_X_collect 31 = .ok (.getfield 185, 3) := by decide +kernel
theorem d_X_collect_34 : decode c_X_collect 34 = .ok (.bipush 100, 2) := by decide +kernel
theorem d_X_collect_36 : decode c_X_collect 36 = .ok (.if_icmp .lt 6, 3) := by decide +kernel
theorem d_X_collect_39 : decode c_X_collect 39 = .ok (.bipush (-104), 2) := by decide +kernel
theorem d_X_collect_41 : decode c_X_collect 41 = .ok (.ireturn, 1) := by decide +kernel
theorem d_X_collect_42 : decode c_X_collect 42 = .ok (.aload 5, 2) := by decide +kernel
theorem d_X_collect_44 : decode c_X_collect 44 = .ok (.dup, 1) := by decide +kernel
theorem d_X_collect_45 : decode c_X_collect 45 = .ok (.getfield 63, 3) := by decide +kernel
theorem d_X_collect_48 : decode c_X_collect 48 = .ok (.lload_n 2, 1) := by decide +kernel
theorem d_X_collect_49 : decode c_X_collect 49 = .ok (.ladd, 1) := by decide +kernel
theorem d_X_collect_50 : decode c_X_collect 50 = .ok (.putfield 63, 3) := by decide +kernel
theorem d_X_collect_53 : decode c_X_collect 53 = .ok (.aload_n 0, 1) := by decide +kernel
theorem d_X_collect_54 : decode c_X_collect 54 = .ok (.getfield 39, 3) := by decide +kernel
theorem d_X_collect_57 : decode c_X_collect 57 = .ok (.iconst 2, 1) := by decide +kernel
theorem d_X_collect_58 : decode c_X_collect 58 = .ok (.dup2, 1) := by decide +kernel
theorem d_X_collect_59 : decode c_X_collect 59 = .ok (.laload, 1) := by decide +kernel
theorem d_X_collect_60 : decode c_X_collect 60 = .ok (.lload_n 2, 1) := by decide +kernel
theorem d_X_collect_61 : decode c_X_collect 61 = .ok (.ladd, 1) := by decide +kernel
theorem d_X_collect_62 : decode c_X_collect 62 = .ok (.lastore, 1) := by decide +kernel
theorem d_X_collect_63 : decode c_X_collect 63 = .ok (.aload_n 0, 1) := by decide +kernel
theorem d_X_collect_64 : decode c_X_collect 64 = .ok (.getfield 35, 3) := by decide +kernel
theorem d_X_collect_67 : decode c_X_collect 67 = .ok (.aload_n 0, 1) := by decide +kernel
theorem d_X_collect_68 : decode c_X_collect 68 = .ok (.getfield 185, 3) := by decide +kernel
theorem d_X_collect_71 : decode c_X_collect 71 = .ok (.new 33, 3) := by decide +kernel
theorem d_X_collect_74 : decode c_X_collect 74 = .ok (.dup, 1) := by decide +kernel
theorem d_X_collect_75 : decode c_X_collect 75 = .ok (.aload 5, 2) := by decide +kernel
theorem d_X_collect_77 : decode c_X_collect 77 = .ok (.lload_n 2, 1) := by decide +kernel
theorem d_X_collect_78 : decode c_X_collect 78 = .ok (.iload 4, 2) := by decide +kernel
theorem d_X_collect_80 : decode c_X_collect 80 = .ok (.invokespecial 188, 3) := by decide +kernel
theorem d_X_collect_83 : decode c_X_collect 83 = .ok (.aastore, 1) := by decide +kernel
theorem d_X_collect_84 : decode c_X_collect 84 = .ok (.aload_n 0, 1) := by decide +kernel
theorem d_X_collect_85 : decode c_X_collect 85 = .ok (.dup, 1) := by decide +kernel
theorem d_X_collect_86 : decode c_X_collect 86 = .ok (.getfield 185, 3) := by decide +kernel
theorem d_X_collect_89 : decode c_X_collect 89 = .ok (.iconst 1, 1) := by decide +kernel
theorem d_X_collect_90 : decode c_X_collect 90 = .ok (.iadd, 1) := by decide +kernel
theorem d_X_collect_91 : decode c_X_collect 91 = .ok (.putfield 185, 3) := by decide +kernel
theorem d_X_collect_94 : decode c_X_collect 94 = .ok (.aload_n 0, 1) := by decide +kernel
theorem d_X_collect_95 : decode c_X_collect 95 = .ok (.getfield 185, 3) := by decide +kernel
theorem d_X_collect_98 : decode c_X_collect 98 = .ok (.ireturn, 1) := by decide +kernel
theorem d_X_passOn_0 : decode c_X_passOn 0 = .ok (.aload_n 1, 1) := by decide +kernel
theorem d_X_passOn_1 : decode c_X_passOn 1 = .ok (.getfield 275, 3) := by decide +kernel
theorem d_X_passOn_4 : decode c_X_passOn 4 = .ok (.iload_n 2, 1) := by decide +kernel
theorem d_X_passOn_5 : decode c_X_passOn 5 = .ok (.if_icmp .gt 17, 3) := by decide +kernel
theorem d_X_passOn_8 : decode c_X_passOn 8 = .ok (.aload_n 1, 1) := by decide +kernel
theorem d_X_passOn_9 : decode c_X_passOn 9 = .ok (.getfield 278, 3) := by decide +kernel
theorem d_X_passOn_12 : decode c_X_passOn 12 = .ok (.aload_n 1, 1) := by decide +kernel
theorem d_X_passOn_13 : decode c_X_passOn 13 = .ok (.getfield 280, 3) := by decide +kernel
theorem d_X_passOn_16 : decode c_X_passOn 16 = .ok (.invokevirtual 246, 3) := by decide +kernel
theorem d_X_passOn_19 : decode c_X_passOn 19 = .ok (.ifCond .ne 5, 3) := by decide +kernel
theorem d_X_passOn_22 : decode c_X_passOn 22 = .ok (.iconst 0, 1) := by decide +kernel
theorem d_X_passOn_23 : decode c_X_passOn 23 = .ok (.ireturn, 1) := by decide +kernel
theorem d_X_passOn_24 : decode c_X_passOn 24 = .ok (.aload_n 0, 1) := by decide +kernel
theorem d_X_passOn_25 : decode c_X_passOn 25 = .ok (.getfield 39, 3) := by decide +kernel
theorem d_X_passOn_28 : decode c_X_passOn 28 = .ok (.iconst 3, 1) := by decide +kernel
theorem d_X_passOn_29 : decode c_X_passOn 29 = .ok (.dup2, 1) := by decide +kernel
theorem d_X_passOn_30 : decode c_X_passOn 30 = .ok (.laload, 1) := by decide +kernel
theorem d_X_passOn_31 : decode c_X_passOn 31 = .ok (.aload_n 1, 1) := by decide +kernel
theorem d_X_passOn_32 : decode c_X_passOn 32 = .ok (.getfield 280, 3) := by decide +kernel
theorem d_X_passOn_35 : decode c_X_passOn 35 = .ok (.ladd, 1) := by decide +kernel
theorem d_X_passOn_36 : decode c_X_passOn 36 = .ok (.lastore, 1) := by decide +kernel
theorem d_X_passOn_37 : decode c_X_passOn 37 = .ok (.iconst 1, 1) := by decide +kernel
theorem d_X_passOn_38 : decode c_X_passOn 38 = .ok (.ireturn, 1) := by decide +kernel
theorem d_X_pass_0 : decode c_X_pass 0 = .ok (.iload_n 1, 1) := by decide +kernel
theorem d_X_pass_1 : decode c_X_pass 1 = .ok (.invokestatic 182, 3) := by decide +kernel
theorem d_X_pass_4 : decode c_X_pass 4 = .ok (.ifCond .ne 6, 3) := by decide +kernel
theorem d_X_pass_7 : decode c_X_pass 7 = .ok (.bipush (-102), 2) := by decide +kernel
theorem d_X_pass_9 : decode c_X_pass 9 = .ok (.ireturn, 1) := by decide +kernel
theorem d_X_pass_10 : decode c_X_pass 10 = .ok (.aload_n 0, 1) := by decide +kernel
theorem d_X_pass_11 : decode c_X_pass 11 = .ok (.getfield 185, 3) := by decide +kernel
theorem d_X_pass_14 : decode c_X_pass 14 = .ok (.istore_n 2, 1) := by decide +kernel
theorem d_X_pass_15 : decode c_X_pass 15 = .ok (.iconst 0, 1) := by decide +kernel
theorem d_X_pass_16 : decode c_X_pass 16 = .ok (.istore_n 3, 1) := by decide +kernel
theorem d_X_pass_17 : decode c_X_pass 17 = .ok (.iconst 0, 1) := by decide +kernel
theorem d_X_pass_18 : decode c_X_pass 18 = .ok (.istore 4, 2) := by decide +kernel
theorem d_X_pass_20 : decode c_X_pass 20 = .ok (.iload 4, 2) := by decide +kernel
theorem d_X_pass_22 : decode c_X_pass 22 = .ok (.iload_n 2, 1) := by decide +kernel
theorem d_X_pass_23 : decode c_X_pass 23 = .ok (.if_icmp .ge 52, 3) := by decide +kernel
theorem d_X_pass_26 : decode c_X_pass 26 = .ok (.aload_n 0, 1) := by decide +kernel
theorem d_X_pass_27 : decode c_X_pass 27 = .ok (.getfield 35, 3) := by decide +kernel
theorem d_X_pass_30 : decode c_X_pass 30 = .ok (.iload 4, 2) := by decide +kernel
theorem d_X_pass_32 : decode c_X_pass 32 = .ok (.aaload, 1) := by decide +kernel
theorem d_X_pass_33 : decode c_X_pass 33 = .ok (.astore 5, 2) := by decide +kernel
theorem d_X_pass_35 : decode c_X_pass 35 = .ok (.aload_n 0, 1) := by decide +kernel
theorem d_X_pass_36 : decode c_X_pass 36 = .ok (.getfield 35, 3) := by decide +kernel
theorem d_X_pass_39 : decode c_X_pass 39 = .ok (.iload 4, 2) := by decide +kernel
theorem d_X_pass_41 : decode c_X_pass 41 = .ok (.aconst_null, 1) := by decide +kernel
theorem d_X_pass_42 : decode c_X_pass 42 = .ok (.aastore, 1) := by decide +kernel
theorem d_X_pass_43 : decode c_X_pass 43 = .ok (.aload 5, 2) := by decide +kernel
theorem d_X_pass_45 : decode c_X_pass 45 = .ok (.ifnull 24, 3) := by decide +kernel
theorem d_X_pass_48 : decode c_X_pass 48 = .ok (.aload_n 0, 1) := by decide +kernel
theorem d_X_pass_49 : decode c_X_pass 49 = .ok (.aload 5, 2) := by decide +kernel
theorem d_X_pass_51 : decode c_X_pass 51 = .ok (.iload_n 1, 1) := by decide +kernel
theorem d_X_pass_52 : decode c_X_pass 52 = .ok (.invokevirtual 191, 3) := by decide +kernel
theorem d_X_pass_55 : decode c_X_pass 55 = .ok (.ifCond .ne 14, 3) := by decide +kernel
theorem d_X_pass_58 : decode c_X_pass 58 = .ok (.aload_n 0, 1) := by decide +kernel
theorem d_X_pass_59 : decode c_X_pass 59 = .ok (.getfield 35, 3) := by decide +kernel
theorem d_X_pass_62 : decode c_X_pass 62 = .ok (.iload_n 3, 1) := by decide +kernel
theorem d_X_pass_63 : decode c_X_pass 63 = .ok (.aload 5, 2) := by decide +kernel
theorem d_X_pass_65 : decode c_X_pass 65 = .ok (.aastore, 1) := by decide +kernel
theorem d_X_pass_66 : decode c_X_pass 66 = .ok (.iinc 3 1, 3) := by decide +kernel
theorem d_X_pass_69 : decode c_X_pass 69 = .ok (.iinc 4 1, 3) := by decide +kernel
theorem d_X_pass_72 : decode c_X_pass 72 = .ok (.goto (-52), 3) := by decide +kernel
theorem d_X_pass_75 : decode c_X_pass 75 = .ok (.aload_n 0, 1) := by decide +kernel
theorem d_X_pass_76 : decode c_X_pass 76 = .ok (.iload_n 3, 1) := by decide +kernel
theorem d_X_pass_77 : decode c_X_pass 77 = .ok (.putfield 185, 3) := by decide +kernel
theorem d_X_pass_80 : decode c_X_pass 80 = .ok (.iload_n 2, 1) := by decide +kernel
theorem d_X_pass_81 : decode c_X_pass 81 = .ok (.iload_n 3, 1) := by decide +kernel
theorem d_X_pass_82 : decode c_X_pass 82 = .ok (.isub, 1) := by decide +kernel
theorem d_X_pass_83 : decode c_X_pass 83 = .ok (.ireturn, 1) := by decide +kernel
theorem d_X_sendBack_0 : decode c_X_sendBack 0 = .ok (.aload_n 1, 1) := by decide +kernel
theorem d_X_sendBack_1 : decode c_X_sendBack 1 = .ok (.invokevirtual 141, 3) := by decide +kernel
theorem d_X_sendBack_4 : decode c_X_sendBack 4 = .ok (.ifCond .eq 17, 3) := by decide +kernel
theorem d_X_sendBack_7 : decode c_X_sendBack 7 = .ok (.aload_n 1, 1) := by decide +kernel
theorem d_X_sendBack_8 : decode c_X_sendBack 8 = .ok (.getfield 145, 3) := by decide +kernel
theorem d_X_sendBack_11 : decode c_X_sendBack 11 = .ok (.aload_n 1, 1) := by decide +kernel
theorem d_X_sendBack_12 : decode c_X_sendBack 12 = .ok (.getfield 149, 3) := by decide +kernel
theorem d_X_sendBack_15 : decode c_X_sendBack 15 = .ok (.invokevirtual 246, 3) := by decide +kernel
theorem d_X_sendBack_18 : decode c_X_sendBack 18 = .ok (.ifCond .ne 5, 3) := by decide +kernel
theorem d_X_sendBack_21 : decode c_X_sendBack 21 = .ok (.iconst 0, 1) := by decide +kernel
theorem d_X_sendBack_22 : decode c_X_sendBack 22 = .ok (.ireturn, 1) := by decide +kernel
theorem d_X_sendBack_23 : decode c_X_sendBack 23 = .ok (.aload_n 0, 1) := by decide +kernel
theorem d_X_sendBack_24 : decode c_X_sendBack 24 = .ok (.getfield 39, 3) := by decide +kernel
theorem d_X_sendBack_27 : decode c_X_sendBack 27 = .ok (.iconst 4, 1) := by decide +kernel
theorem d_X_sendBack_28 : decode c_X_sendBack 28 = .ok (.dup2, 1) := by decide +kernel
theorem d_X_sendBack_29 : decode c_X_sendBack 29 = .ok (.laload, 1) := by decide +kernel
theorem d_X_sendBack_30 : decode c_X_sendBack 30 = .ok (.aload_n 1, 1) := by decide +kernel
theorem d_X_sendBack_31 : decode c_X_sendBack 31 = .ok (.getfield 149, 3) := by decide +kernel
theorem d_X_sendBack_34 : decode c_X_sendBack 34 = .ok (.ladd, 1) := by decide +kernel
theorem d_X_sendBack_35 : decode c_X_sendBack 35 = .ok (.lastore, 1) := by decide +kernel
theorem d_X_sendBack_36 : decode c_X_sendBack 36 = .ok (.aload_n 1, 1) := by decide +kernel
theorem d_X_sendBack_37 : decode c_X_sendBack 37 = .ok (.iconst 3, 1) := by decide +kernel
theorem d_X_sendBack_38 : decode c_X_sendBack 38 = .ok (.invokevirtual 136, 3) := by decide +kernel
theorem d_X_sendBack_41 : decode c_X_sendBack 41 = .ok (.iconst 1, 1) := by decide +kernel
theorem d_X_sendBack_42 : decode c_X_sendBack 42 = .ok (.ireturn, 1) := by decide +kernel
theorem d_X_tick_0 : decode c_X_tick 0 = .ok (.lload_n 1, 1) := by decide +kernel
theorem d_X_tick_1 : decode c_X_tick 1 = .ok (.lconst 0, 1) := by decide +kernel
theorem d_X_tick_2 : decode c_X_tick 2 = .ok (.lcmp, 1) := by decide +kernel
theorem d_X_tick_3 : decode c_X_tick 3 = .ok (.ifCond .ge 6, 3) := by decide +kernel
theorem d_X_tick_6 : decode c_X_tick 6 = .ok (.bipush (-102), 2) := by decide +kernel
theorem d_X_tick_8 : decode c_X_tick 8 = .ok (.ireturn, 1) := by decide +kernel
theorem d_X_tick_9 : decode c_X_tick 9 = .ok (.iconst 0, 1) := by decide +kernel
theorem d_X_tick_10 : decode c_X_tick 10 = .ok (.istore_n 3, 1) := by decide +kernel
theorem d_X_tick_11 : decode c_X_tick 11 = .ok (.iconst 0, 1) := by decide +kernel
theorem d_X_tick_12 : decode c_X_tick 12 = .ok (.istore 4, 2) := by decide +kernel
theorem d_X_tick_14 : decode c_X_tick 14 = .ok (.iload 4, 2) := by decide +kernel
theorem d_X_tick_16 : decode c_X_tick 16 = .ok (.aload_n 0, 1) := by decide +kernel
theorem d_X_tick_17 : decode c_X_tick 17 = .ok (.getfield 59, 3) := by decide +kernel
theorem d_X_tick_20 : decode c_X_tick 20 = .ok (.if_icmp .ge 45, 3) := by decide +kernel
theorem d_X_tick_23 : decode c_X_tick 23 = .ok (.aload_n 0, 1) := by decide +kernel
theorem d_X_tick_24 : decode c_X_tick 24 = .ok (.getfield 23, 3) := by decide +kernel
theorem d_X_tick_27 : decode c_X_tick 27 = .ok (.iload 4, 2) := by decide +kernel
theorem d_X_tick_29 : decode c_X_tick 29 = .ok (.aaload, 1) := by decide +kernel
theorem d_X_tick_30 : decode c_X_tick 30 = .ok (.astore 5, 2) := by decide +kernel
theorem d_X_tick_32 : decode c_X_tick 32 = .ok (.aload 5, 2) := by decide +kernel
theorem d_X_tick_34 : decode c_X_tick 34 = .ok (.ifnull 25, 3) := by decide +kernel
theorem d_X_tick_37 : decode c_X_tick 37 = .ok (.aload 5, 2) := by decide +kernel
theorem d_X_tick_39 : decode c_X_tick 39 = .ok (.getfield 78, 3) := by decide +kernel
theorem d_X_tick_42 : decode c_X_tick 42 = .ok (.lload_n 1, 1) := by decide +kernel
theorem d_X_tick_43 : decode c_X_tick 43 = .ok (.lcmp, 1) := by decide +kernel
theorem d_X_tick_44 : decode c_X_tick 44 = .ok (.ifCond .ge 15, 3) := by decide +kernel
theorem d_X_tick_47 : decode c_X_tick 47 = .ok (.aload_n 0, 1) := by decide +kernel
theorem d_X_tick_48 : decode c_X_tick 48 = .ok (.aload 5, 2) := by decide +kernel
theorem d_X_tick_50 : decode c_X_tick 50 = .ok (.invokevirtual 195, 3) := by decide +kernel
theorem d_X_tick_53 : decode c_X_tick 53 = .ok (.ifCond .eq 6, 3) := by decide +kernel
theorem d_X_tick_56 : decode c_X_tick 56 = .ok (.iinc 3 1, 3) := by decide +kernel
theorem d_X_tick_59 : decode c_X_tick 59 = .ok (.iinc 4 1, 3) := by decide +kernel
theorem d_X_tick_62 : decode c_X_tick 62 = .ok (.goto (-48), 3) := by decide +kernel
theorem d_X_tick_65 : decode c_X_tick 65 = .ok (.iload_n 3, 1) := by decide +kernel
theorem d_X_tick_66 : decode c_X_tick 66 = .ok (.ireturn, 1) := by decide +kernel
theorem d_X_placeOf_0 : decode c_X_placeOf 0 = .ok (.aload_n 0, 1) := by decide +kernel
theorem d_X_placeOf_1 : decode c_X_placeOf 1 = .ok (.ifnonnull 9, 3) := by decide +kernel
theorem d_X_placeOf_4 : decode c_X_placeOf 4 = .ok (.ldc2_w 214, 3) := by decide +kernel
theorem d_X_placeOf_7 : decode c_X_placeOf 7 = .ok (.goto 8, 3) := by decide +kernel
theorem d_X_placeOf_10 : decode c_X_placeOf 10 = .ok (.aload_n 0, 1) := by decide +kernel
theorem d_X_placeOf_11 : decode c_X_placeOf 11 = .ok (.getfield 198, 3) := by decide +kernel
theorem d_X_placeOf_14 : decode c_X_placeOf 14 = .ok (.i2l, 1) := by decide +kernel
theorem d_X_placeOf_15 : decode c_X_placeOf 15 = .ok (.lreturn, 1) := by decide +kernel
theorem d_X_about_0 : decode c_X_about 0 = .ok (.aload_n 0, 1) := by decide +kernel
theorem d_X_about_1 : decode c_X_about 1 = .ok (.lload_n 1, 1) := by decide +kernel
theorem d_X_about_2 : decode c_X_about 2 = .ok (.invokevirtual 71, 3) := by decide +kernel
theorem d_X_about_5 : decode c_X_about 5 = .ok (.astore 4, 2) := by decide +kernel
theorem d_X_about_7 : decode c_X_about 7 = .ok (.aload 4, 2) := by decide +kernel
theorem d_X_about_9 : decode c_X_about 9 = .ok (.ifnonnull 7, 3) := by decide +kernel
theorem d_X_about_12 : decode c_X_about 12 = .ok (.ldc2_w 139, 3) := by decide +kernel
theorem d_X_about_15 : decode c_X_about 15 = .ok (.lreturn, 1) := by decide +kernel
theorem d_X_about_16 : decode c_X_about 16 = .ok (.iload_n 3, 1) := by decide +kernel
theorem d_X_about_17 : decode c_X_about 17 = .ok (.tableswitch 86 0 5 #[39, 46, 52, 62, 71, 80], 39) := by decide +kernel
theorem d_X_about_56 : decode c_X_about 56 = .ok (.aload 4, 2) := by decide +kernel
theorem d_X_about_58 : decode c_X_about 58 = .ok (.getfield 75, 3) := by decide +kernel
theorem d_X_about_61 : decode c_X_about 61 = .ok (.i2l, 1) := by decide +kernel
theorem d_X_about_62 : decode c_X_about 62 = .ok (.lreturn, 1) := by decide +kernel
theorem d_X_about_63 : decode c_X_about 63 = .ok (.aload 4, 2) := by decide +kernel
theorem d_X_about_65 : decode c_X_about 65 = .ok (.getfield 149, 3) := by decide +kernel
theorem d_X_about_68 : decode c_X_about 68 = .ok (.lreturn, 1) := by decide +kernel
theorem d_X_about_69 : decode c_X_about 69 = .ok (.aload 4, 2) := by decide +kernel
theorem d_X_about_71 : decode c_X_about 71 = .ok (.getfield 145, 3) := by decide +kernel
theorem d_X_about_74 : decode c_X_about 74 = .ok (.getfield 198, 3) := by decide +kernel
theorem d_X_about_77 : decode c_X_about 77 = .ok (.i2l, 1) := by decide +kernel
theorem d_X_about_78 : decode c_X_about 78 = .ok (.lreturn, 1) := by decide +kernel
theorem d_X_about_79 : decode c_X_about 79 = .ok (.aload 4, 2) := by decide +kernel
theorem d_X_about_81 : decode c_X_about 81 = .ok (.getfield 201, 3) := by decide +kernel
theorem d_X_about_84 : decode c_X_about 84 = .ok (.invokestatic 204, 3) := by decide +kernel
theorem d_X_about_87 : decode c_X_about 87 = .ok (.lreturn, 1) := by decide +kernel
theorem d_X_about_88 : decode c_X_about 88 = .ok (.aload 4, 2) := by decide +kernel
theorem d_X_about_90 : decode c_X_about 90 = .ok (.getfield 165, 3) := by decide +kernel
theorem d_X_about_93 : decode c_X_about 93 = .ok (.invokestatic 204, 3) := by decide +kernel
theorem d_X_about_96 : decode c_X_about 96 = .ok (.lreturn, 1) := by decide +kernel
theorem d_X_about_97 : decode c_X_about 97 = .ok (.aload 4, 2) := by decide +kernel
theorem d_X_about_99 : decode c_X_about 99 = .ok (.invokevirtual 208, 3) := by decide +kernel
theorem d_X_about_102 : decode c_X_about 102 = .ok (.lreturn, 1) := by decide +kernel
theorem d_X_about_103 : decode c_X_about 103 = .ok (.ldc2_w 212, 3) := by decide +kernel
theorem d_X_about_106 : decode c_X_about 106 = .ok (.lreturn, 1) := by decide +kernel
theorem d_X_till_0 : decode c_X_till 0 = .ok (.aload_n 0, 1) := by decide +kernel
theorem d_X_till_1 : decode c_X_till 1 = .ok (.iload_n 1, 1) := by decide +kernel
theorem d_X_till_2 : decode c_X_till 2 = .ok (.invokevirtual 47, 3) := by decide +kernel
theorem d_X_till_5 : decode c_X_till 5 = .ok (.astore_n 2, 1) := by decide +kernel
theorem d_X_till_6 : decode c_X_till 6 = .ok (.aload_n 2, 1) := by decide +kernel
theorem d_X_till_7 : decode c_X_till 7 = .ok (.ifnonnull 9, 3) := by decide +kernel
theorem d_X_till_10 : decode c_X_till 10 = .ok (.ldc2_w 212, 3) := by decide +kernel
theorem d_X_till_13 : decode c_X_till 13 = .ok (.goto 7, 3) := by decide +kernel
theorem d_X_till_16 : decode c_X_till 16 = .ok (.aload_n 2, 1) := by decide +kernel
theorem d_X_till_17 : decode c_X_till 17 = .ok (.getfield 63, 3) := by decide +kernel
theorem d_X_till_20 : decode c_X_till 20 = .ok (.lreturn, 1) := by decide +kernel
theorem d_X_all_0 : decode c_X_all 0 = .ok (.iload_n 1, 1) := by decide +kernel
theorem d_X_all_1 : decode c_X_all 1 = .ok (.ifCond .lt 9, 3) := by decide +kernel
theorem d_X_all_4 : decode c_X_all 4 = .ok (.iload_n 1, 1) := by decide +kernel
theorem d_X_all_5 : decode c_X_all 5 = .ok (.bipush 9, 2) := by decide +kernel
theorem d_X_all_7 : decode c_X_all 7 = .ok (.if_icmp .lt 9, 3) := by decide +kernel
theorem d_X_all_10 : decode c_X_all 10 = .ok (.ldc2_w 212, 3) := by decide +kernel
theorem d_X_all_13 : decode c_X_all 13 = .ok (.goto 9, 3) := by decide +kernel
theorem d_X_all_16 : decode c_X_all 16 = .ok (.aload_n 0, 1) := by decide +kernel
theorem d_X_all_17 : decode c_X_all 17 = .ok (.getfield 39, 3) := by decide +kernel
theorem d_X_all_20 : decode c_X_all 20 = .ok (.iload_n 1, 1) := by decide +kernel
theorem d_X_all_21 : decode c_X_all 21 = .ok (.laload, 1) := by decide +kernel
theorem d_X_all_22 : decode c_X_all 22 = .ok (.lreturn, 1) := by decide +kernel
theorem d_M_init_0 : decode c_M_init 0 = .ok (.aload_n 0, 1) := by decide +kernel
theorem d_M_init_1 : decode c_M_init 1 = .ok (.invokespecial 1, 3) := by decide +kernel
theorem d_M_init_4 : decode c_M_init 4 = .ok (.aload_n 0, 1) := by decide +kernel
theorem d_M_init_5 : decode c_M_init 5 = .ok (.sipush 301, 3) := by decide +kernel
theorem d_M_init_8 : decode c_M_init 8 = .ok (.newarray .int, 2) := by decide +kernel
theorem d_M_init_10 : decode c_M_init 10 = .ok (.putfield 7, 3) := by decide +kernel
theorem d_M_init_13 : decode c_M_init 13 = .ok (.aload_n 0, 1) := by decide +kernel
