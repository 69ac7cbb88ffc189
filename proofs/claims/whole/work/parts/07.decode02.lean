theorem d_Office_keepsLimit_33 : decode c_Office_keepsLimit 33 = .ok (.ladd, 1) := by decide +kernel
theorem d_Office_keepsLimit_34 : decode c_Office_keepsLimit 34 = .ok (.aload_n 0, 1) := by decide +kernel
theorem d_Office_keepsLimit_35 : decode c_Office_keepsLimit 35 = .ok (.getfield 11, 3) := by decide +kernel
theorem d_Office_keepsLimit_38 : decode c_Office_keepsLimit 38 = .ok (.lcmp, 1) := by decide +kernel
theorem d_Office_keepsLimit_39 : decode c_Office_keepsLimit 39 = .ok (.ifCond .gt 7, 3) := by decide +kernel
theorem d_Office_keepsLimit_42 : decode c_Office_keepsLimit 42 = .ok (.iconst 1, 1) := by decide +kernel
theorem d_Office_keepsLimit_43 : decode c_Office_keepsLimit 43 = .ok (.goto 4, 3) := by decide +kernel
theorem d_Office_keepsLimit_46 : decode c_Office_keepsLimit 46 = .ok (.iconst 0, 1) := by decide +kernel
theorem d_Office_keepsLimit_47 : decode c_Office_keepsLimit 47 = .ok (.ireturn, 1) := by decide +kernel
theorem d_Office_giveOut_0 : decode c_Office_giveOut 0 = .ok (.aload_n 0, 1) := by decide +kernel
theorem d_Office_giveOut_1 : decode c_Office_giveOut 1 = .ok (.getfield 40, 3) := by decide +kernel
theorem d_Office_giveOut_4 : decode c_Office_giveOut 4 = .ok (.lload_n 1, 1) := by decide +kernel
theorem d_Office_giveOut_5 : decode c_Office_giveOut 5 = .ok (.lcmp, 1) := by decide +kernel
theorem d_Office_giveOut_6 : decode c_Office_giveOut 6 = .ok (.ifCond .ge 5, 3) := by decide +kernel
theorem d_Office_giveOut_9 : decode c_Office_giveOut 9 = .ok (.iconst 0, 1) := by decide +kernel
theorem d_Office_giveOut_10 : decode c_Office_giveOut 10 = .ok (.ireturn, 1) := by decide +kernel
theorem d_Office_giveOut_11 : decode c_Office_giveOut 11 = .ok (.aload_n 0, 1) := by decide +kernel
theorem d_Office_giveOut_12 : decode c_Office_giveOut 12 = .ok (.dup, 1) := by decide +kernel
theorem d_Office_giveOut_13 : decode c_Office_giveOut 13 = .ok (.getfield 40, 3) := by decide +kernel
theorem d_Office_giveOut_16 : decode c_Office_giveOut 16 = .ok (.lload_n 1, 1) := by decide +kernel
theorem d_Office_giveOut_17 : decode c_Office_giveOut 17 = .ok (.lsub, 1) := by decide +kernel
theorem d_Office_giveOut_18 : decode c_Office_giveOut 18 = .ok (.putfield 40, 3) := by decide +kernel
theorem d_Office_giveOut_21 : decode c_Office_giveOut 21 = .ok (.iconst 1, 1) := by decide +kernel
theorem d_Office_giveOut_22 : decode c_Office_giveOut 22 = .ok (.ireturn, 1) := by decide +kernel
theorem d_Order_leaveList_0 : decode c_Order_leaveList 0 = .ok (.aload_n 0, 1) := by decide +kernel
theorem d_Order_leaveList_1 : decode c_Order_leaveList 1 = .ok (.getfield 51, 3) := by decide +kernel
theorem d_Order_leaveList_4 : decode c_Order_leaveList 4 = .ok (.ifnull 21, 3) := by decide +kernel
theorem d_Order_leaveList_7 : decode c_Order_leaveList 7 = .ok (.aload_n 0, 1) := by decide +kernel
theorem d_Order_leaveList_8 : decode c_Order_leaveList 8 = .ok (.getfield 51, 3) := by decide +kernel
theorem d_Order_leaveList_11 : decode c_Order_leaveList 11 = .ok (.dup, 1) := by decide +kernel
theorem d_Order_leaveList_12 : decode c_Order_leaveList 12 = .ok (.getfield 54, 3) := by decide +kernel
theorem d_Order_leaveList_15 : decode c_Order_leaveList 15 = .ok (.iconst 1, 1) := by decide +kernel
theorem d_Order_leaveList_16 : decode c_Order_leaveList 16 = .ok (.isub, 1) := by decide +kernel
theorem d_Order_leaveList_17 : decode c_Order_leaveList 17 = .ok (.putfield 54, 3) := by decide +kernel
theorem d_Order_leaveList_20 : decode c_Order_leaveList 20 = .ok (.aload_n 0, 1) := by decide +kernel
theorem d_Order_leaveList_21 : decode c_Order_leaveList 21 = .ok (.aconst_null, 1) := by decide +kernel
theorem d_Order_leaveList_22 : decode c_Order_leaveList 22 = .ok (.putfield 51, 3) := by decide +kernel
theorem d_Order_leaveList_25 : decode c_Order_leaveList 25 = .ok (.return_, 1) := by decide +kernel
theorem d_Order_become_0 : decode c_Order_become 0 = .ok (.aload_n 0, 1) := by decide +kernel
theorem d_Order_become_1 : decode c_Order_become 1 = .ok (.iload_n 1, 1) := by decide +kernel
theorem d_Order_become_2 : decode c_Order_become 2 = .ok (.putfield 9, 3) := by decide +kernel
theorem d_Order_become_5 : decode c_Order_become 5 = .ok (.aload_n 0, 1) := by decide +kernel
theorem d_Order_become_6 : decode c_Order_become 6 = .ok (.invokevirtual 48, 3) := by decide +kernel
theorem d_Order_become_9 : decode c_Order_become 9 = .ok (.return_, 1) := by decide +kernel
theorem d_Office_know_0 : decode c_Office_know 0 = .ok (.lload_n 2, 1) := by decide +kernel
theorem d_Office_know_1 : decode c_Office_know 1 = .ok (.aload_n 0, 1) := by decide +kernel
theorem d_Office_know_2 : decode c_Office_know 2 = .ok (.getfield 17, 3) := by decide +kernel
theorem d_Office_know_5 : decode c_Office_know 5 = .ok (.lcmp, 1) := by decide +kernel
theorem d_Office_know_6 : decode c_Office_know 6 = .ok (.ifCond .eq 18, 3) := by decide +kernel
theorem d_Office_know_9 : decode c_Office_know 9 = .ok (.aload_n 0, 1) := by decide +kernel
theorem d_Office_know_10 : decode c_Office_know 10 = .ok (.lload_n 2, 1) := by decide +kernel
theorem d_Office_know_11 : decode c_Office_know 11 = .ok (.putfield 17, 3) := by decide +kernel
theorem d_Office_know_14 : decode c_Office_know 14 = .ok (.aload_n 0, 1) := by decide +kernel
theorem d_Office_know_15 : decode c_Office_know 15 = .ok (.lconst 0, 1) := by decide +kernel
theorem d_Office_know_16 : decode c_Office_know 16 = .ok (.putfield 37, 3) := by decide +kernel
theorem d_Office_know_19 : decode c_Office_know 19 = .ok (.aload_n 0, 1) := by decide +kernel
theorem d_Office_know_20 : decode c_Office_know 20 = .ok (.aconst_null, 1) := by decide +kernel
theorem d_Office_know_21 : decode c_Office_know 21 = .ok (.putfield 43, 3) := by decide +kernel
theorem d_Office_know_24 : decode c_Office_know 24 = .ok (.aload_n 0, 1) := by decide +kernel
theorem d_Office_know_25 : decode c_Office_know 25 = .ok (.dup, 1) := by decide +kernel
theorem d_Office_know_26 : decode c_Office_know 26 = .ok (.getfield 37, 3) := by decide +kernel
theorem d_Office_know_29 : decode c_Office_know 29 = .ok (.aload_n 1, 1) := by decide +kernel
theorem d_Office_know_30 : decode c_Office_know 30 = .ok (.invokevirtual 47, 3) := by decide +kernel
theorem d_Office_know_33 : decode c_Office_know 33 = .ok (.ladd, 1) := by decide +kernel
theorem d_Office_know_34 : decode c_Office_know 34 = .ok (.putfield 37, 3) := by decide +kernel
theorem d_Office_know_37 : decode c_Office_know 37 = .ok (.aload_n 1, 1) := by decide +kernel
theorem d_Office_know_38 : decode c_Office_know 38 = .ok (.aload_n 0, 1) := by decide +kernel
theorem d_Office_know_39 : decode c_Office_know 39 = .ok (.getfield 43, 3) := by decide +kernel
theorem d_Office_know_42 : decode c_Office_know 42 = .ok (.putfield 51, 3) := by decide +kernel
theorem d_Office_know_45 : decode c_Office_know 45 = .ok (.aload_n 0, 1) := by decide +kernel
theorem d_Office_know_46 : decode c_Office_know 46 = .ok (.aload_n 1, 1) := by decide +kernel
theorem d_Office_know_47 : decode c_Office_know 47 = .ok (.putfield 43, 3) := by decide +kernel
theorem d_Office_know_50 : decode c_Office_know 50 = .ok (.return_, 1) := by decide +kernel
theorem d_Office_knownWith_0 : decode c_Office_knownWith 0 = .ok (.iconst 0, 1) := by decide +kernel
theorem d_Office_knownWith_1 : decode c_Office_knownWith 1 = .ok (.istore_n 2, 1) := by decide +kernel
theorem d_Office_knownWith_2 : decode c_Office_knownWith 2 = .ok (.aload_n 0, 1) := by decide +kernel
theorem d_Office_knownWith_3 : decode c_Office_knownWith 3 = .ok (.getfield 43, 3) := by decide +kernel
theorem d_Office_knownWith_6 : decode c_Office_knownWith 6 = .ok (.astore_n 3, 1) := by decide +kernel
theorem d_Office_knownWith_7 : decode c_Office_knownWith 7 = .ok (.aload_n 3, 1) := by decide +kernel
theorem d_Office_knownWith_8 : decode c_Office_knownWith 8 = .ok (.ifnull 22, 3) := by decide +kernel
theorem d_Office_knownWith_11 : decode c_Office_knownWith 11 = .ok (.aload_n 3, 1) := by decide +kernel
theorem d_Office_knownWith_12 : decode c_Office_knownWith 12 = .ok (.getfield 54, 3) := by decide +kernel
theorem d_Office_knownWith_15 : decode c_Office_knownWith 15 = .ok (.iload_n 1, 1) := by decide +kernel
theorem d_Office_knownWith_16 : decode c_Office_knownWith 16 = .ok (.if_icmp .ne 6, 3) := by decide +kernel
theorem d_Office_knownWith_19 : decode c_Office_knownWith 19 = .ok (.iinc 2 1, 3) := by decide +kernel
theorem d_Office_knownWith_22 : decode c_Office_knownWith 22 = .ok (.aload_n 3, 1) := by decide +kernel
theorem d_Office_knownWith_23 : decode c_Office_knownWith 23 = .ok (.getfield 51, 3) := by decide +kernel
theorem d_Office_knownWith_26 : decode c_Office_knownWith 26 = .ok (.astore_n 3, 1) := by decide +kernel
theorem d_Office_knownWith_27 : decode c_Office_knownWith 27 = .ok (.goto (-20), 3) := by decide +kernel
theorem d_Office_knownWith_30 : decode c_Office_knownWith 30 = .ok (.iload_n 2, 1) := by decide +kernel
theorem d_Office_knownWith_31 : decode c_Office_knownWith 31 = .ok (.ireturn, 1) := by decide +kernel
theorem d_X_writePaid_0 : decode c_X_writePaid 0 = .ok (.aload_n 2, 1) := by decide +kernel
theorem d_X_writePaid_1 : decode c_X_writePaid 1 = .ok (.iconst 1, 1) := by decide +kernel
theorem d_X_writePaid_2 : decode c_X_writePaid 2 = .ok (.invokevirtual 136, 3) := by decide +kernel
theorem d_X_writePaid_5 : decode c_X_writePaid 5 = .ok (.aload_n 2, 1) := by decide +kernel
theorem d_X_writePaid_6 : decode c_X_writePaid 6 = .ok (.aload_n 1, 1) := by decide +kernel
theorem d_X_writePaid_7 : decode c_X_writePaid 7 = .ok (.putfield 201, 3) := by decide +kernel
theorem d_X_writePaid_10 : decode c_X_writePaid 10 = .ok (.aload_n 1, 1) := by decide +kernel
theorem d_X_writePaid_11 : decode c_X_writePaid 11 = .ok (.aload_n 2, 1) := by decide +kernel
theorem d_X_writePaid_12 : decode c_X_writePaid 12 = .ok (.lload_n 3, 1) := by decide +kernel
theorem d_X_writePaid_13 : decode c_X_writePaid 13 = .ok (.invokevirtual 253, 3) := by decide +kernel
theorem d_X_writePaid_16 : decode c_X_writePaid 16 = .ok (.aload_n 0, 1) := by decide +kernel
theorem d_X_writePaid_17 : decode c_X_writePaid 17 = .ok (.getfield 39, 3) := by decide +kernel
theorem d_X_writePaid_20 : decode c_X_writePaid 20 = .ok (.iconst 1, 1) := by decide +kernel
theorem d_X_writePaid_21 : decode c_X_writePaid 21 = .ok (.dup2, 1) := by decide +kernel
theorem d_X_writePaid_22 : decode c_X_writePaid 22 = .ok (.laload, 1) := by decide +kernel
theorem d_X_writePaid_23 : decode c_X_writePaid 23 = .ok (.aload_n 2, 1) := by decide +kernel
theorem d_X_writePaid_24 : decode c_X_writePaid 24 = .ok (.invokevirtual 208, 3) := by decide +kernel
theorem d_X_writePaid_27 : decode c_X_writePaid 27 = .ok (.ladd, 1) := by decide +kernel
theorem d_X_writePaid_28 : decode c_X_writePaid 28 = .ok (.lastore, 1) := by decide +kernel
theorem d_X_writePaid_29 : decode c_X_writePaid 29 = .ok (.aload_n 1, 1) := by decide +kernel
theorem d_X_writePaid_30 : decode c_X_writePaid 30 = .ok (.aload_n 2, 1) := by decide +kernel
theorem d_X_writePaid_31 : decode c_X_writePaid 31 = .ok (.getfield 156, 3) := by decide +kernel
theorem d_X_writePaid_34 : decode c_X_writePaid 34 = .ok (.invokevirtual 257, 3) := by decide +kernel
theorem d_X_writePaid_37 : decode c_X_writePaid 37 = .ok (.iconst 3, 1) := by decide +kernel
theorem d_X_writePaid_38 : decode c_X_writePaid 38 = .ok (.if_icmp .lt 14, 3) := by decide +kernel
theorem d_X_writePaid_41 : decode c_X_writePaid 41 = .ok (.aload_n 0, 1) := by decide +kernel
theorem d_X_writePaid_42 : decode c_X_writePaid 42 = .ok (.getfield 39, 3) := by decide +kernel
theorem d_X_writePaid_45 : decode c_X_writePaid 45 = .ok (.bipush 7, 2) := by decide +kernel
theorem d_X_writePaid_47 : decode c_X_writePaid 47 = .ok (.dup2, 1) := by decide +kernel
theorem d_X_writePaid_48 : decode c_X_writePaid 48 = .ok (.laload, 1) := by decide +kernel
theorem d_X_writePaid_49 : decode c_X_writePaid 49 = .ok (.lconst 1, 1) := by decide +kernel
theorem d_X_writePaid_50 : decode c_X_writePaid 50 = .ok (.ladd, 1) := by decide +kernel
theorem d_X_writePaid_51 : decode c_X_writePaid 51 = .ok (.lastore, 1) := by decide +kernel
theorem d_X_writePaid_52 : decode c_X_writePaid 52 = .ok (.return_, 1) := by decide +kernel
theorem d_X_takeStep_0 : decode c_X_takeStep 0 = .ok (.iload_n 1, 1) := by decide +kernel
theorem d_X_takeStep_1 : decode c_X_takeStep 1 = .ok (.tableswitch 98 1 4 #[31, 44, 60, 80], 31) := by decide +kernel
theorem d_X_takeStep_32 : decode c_X_takeStep 32 = .ok (.aload_n 0, 1) := by decide +kernel
theorem d_X_takeStep_33 : decode c_X_takeStep 33 = .ok (.getfield 39, 3) := by decide +kernel
theorem d_X_takeStep_36 : decode c_X_takeStep 36 = .ok (.bipush 8, 2) := by decide +kernel
theorem d_X_takeStep_38 : decode c_X_takeStep 38 = .ok (.dup2, 1) := by decide +kernel
theorem d_X_takeStep_39 : decode c_X_takeStep 39 = .ok (.laload, 1) := by decide +kernel
theorem d_X_takeStep_40 : decode c_X_takeStep 40 = .ok (.lconst 1, 1) := by decide +kernel
theorem d_X_takeStep_41 : decode c_X_takeStep 41 = .ok (.ladd, 1) := by decide +kernel
theorem d_X_takeStep_42 : decode c_X_takeStep 42 = .ok (.lastore, 1) := by decide +kernel
theorem d_X_takeStep_43 : decode c_X_takeStep 43 = .ok (.iconst 1, 1) := by decide +kernel
theorem d_X_takeStep_44 : decode c_X_takeStep 44 = .ok (.ireturn, 1) := by decide +kernel
theorem d_X_takeStep_45 : decode c_X_takeStep 45 = .ok (.iload 4, 2) := by decide +kernel
theorem d_X_takeStep_47 : decode c_X_takeStep 47 = .ok (.aload_n 3, 1) := by decide +kernel
theorem d_X_takeStep_48 : decode c_X_takeStep 48 = .ok (.getfield 156, 3) := by decide +kernel
theorem d_X_takeStep_51 : decode c_X_takeStep 51 = .ok (.if_icmp .ne 7, 3) := by decide +kernel
theorem d_X_takeStep_54 : decode c_X_takeStep 54 = .ok (.iconst 1, 1) := by decide +kernel
theorem d_X_takeStep_55 : decode c_X_takeStep 55 = .ok (.goto 5, 3) := by decide +kernel
theorem d_X_takeStep_58 : decode c_X_takeStep 58 = .ok (.bipush (-105), 2) := by decide +kernel
theorem d_X_takeStep_60 : decode c_X_takeStep 60 = .ok (.ireturn, 1) := by decide +kernel
theorem d_X_takeStep_61 : decode c_X_takeStep 61 = .ok (.aload_n 2, 1) := by decide +kernel
theorem d_X_takeStep_62 : decode c_X_takeStep 62 = .ok (.aload_n 3, 1) := by decide +kernel
theorem d_X_takeStep_63 : decode c_X_takeStep 63 = .ok (.invokevirtual 208, 3) := by decide +kernel
theorem d_X_takeStep_66 : decode c_X_takeStep 66 = .ok (.lload 5, 2) := by decide +kernel
theorem d_X_takeStep_68 : decode c_X_takeStep 68 = .ok (.invokevirtual 242, 3) := by decide +kernel
theorem d_X_takeStep_71 : decode c_X_takeStep 71 = .ok (.ifCond .eq 7, 3) := by decide +kernel
theorem d_X_takeStep_74 : decode c_X_takeStep 74 = .ok (.iconst 1, 1) := by decide +kernel
theorem d_X_takeStep_75 : decode c_X_takeStep 75 = .ok (.goto 5, 3) := by decide +kernel
theorem d_X_takeStep_78 : decode c_X_takeStep 78 = .ok (.bipush (-106), 2) := by decide +kernel
theorem d_X_takeStep_80 : decode c_X_takeStep 80 = .ok (.ireturn, 1) := by decide +kernel
theorem d_X_takeStep_81 : decode c_X_takeStep 81 = .ok (.aload_n 2, 1) := by decide +kernel
theorem d_X_takeStep_82 : decode c_X_takeStep 82 = .ok (.aload_n 3, 1) := by decide +kernel
theorem d_X_takeStep_83 : decode c_X_takeStep 83 = .ok (.invokevirtual 208, 3) := by decide +kernel
theorem d_X_takeStep_86 : decode c_X_takeStep 86 = .ok (.invokevirtual 246, 3) := by decide +kernel
theorem d_X_takeStep_89 : decode c_X_takeStep 89 = .ok (.ifCond .eq 7, 3) := by decide +kernel
theorem d_X_takeStep_92 : decode c_X_takeStep 92 = .ok (.iconst 1, 1) := by decide +kernel
theorem d_X_takeStep_93 : decode c_X_takeStep 93 = .ok (.goto 5, 3) := by decide +kernel
theorem d_X_takeStep_96 : decode c_X_takeStep 96 = .ok (.bipush (-107), 2) := by decide +kernel
theorem d_X_takeStep_98 : decode c_X_takeStep 98 = .ok (.ireturn, 1) := by decide +kernel
theorem d_X_takeStep_99 : decode c_X_takeStep 99 = .ok (.aload_n 0, 1) := by decide +kernel
theorem d_X_takeStep_100 : decode c_X_takeStep 100 = .ok (.aload_n 2, 1) := by decide +kernel
theorem d_X_takeStep_101 : decode c_X_takeStep 101 = .ok (.aload_n 3, 1) := by decide +kernel
theorem d_X_takeStep_102 : decode c_X_takeStep 102 = .ok (.lload 5, 2) := by decide +kernel
theorem d_X_takeStep_104 : decode c_X_takeStep 104 = .ok (.invokevirtual 249, 3) := by decide +kernel
theorem d_X_takeStep_107 : decode c_X_takeStep 107 = .ok (.iconst 1, 1) := by decide +kernel
theorem d_X_takeStep_108 : decode c_X_takeStep 108 = .ok (.ireturn, 1) := by decide +kernel
theorem d_X_undoSteps_0 : decode c_X_undoSteps 0 = .ok (.iload_n 1, 1) := by decide +kernel
theorem d_X_undoSteps_1 : decode c_X_undoSteps 1 = .ok (.istore 4, 2) := by decide +kernel
theorem d_X_undoSteps_3 : decode c_X_undoSteps 3 = .ok (.iload 4, 2) := by decide +kernel
theorem d_X_undoSteps_5 : decode c_X_undoSteps 5 = .ok (.iconst 1, 1) := by decide +kernel
theorem d_X_undoSteps_6 : decode c_X_undoSteps 6 = .ok (.if_icmp .lt 48, 3) := by decide +kernel
theorem d_X_undoSteps_9 : decode c_X_undoSteps 9 = .ok (.iload 4, 2) := by decide +kernel
theorem d_X_undoSteps_11 : decode c_X_undoSteps 11 = .ok (.iconst 4, 1) := by decide +kernel
theorem d_X_undoSteps_12 : decode c_X_undoSteps 12 = .ok (.if_icmp .ne 19, 3) := by decide +kernel
theorem d_X_undoSteps_15 : decode c_X_undoSteps 15 = .ok (.aload_n 2, 1) := by decide +kernel
theorem d_X_undoSteps_16 : decode c_X_undoSteps 16 = .ok (.dup, 1) := by decide +kernel
theorem d_X_undoSteps_17 : decode c_X_undoSteps 17 = .ok (.getfield 63, 3) := by decide +kernel
theorem d_X_undoSteps_20 : decode c_X_undoSteps 20 = .ok (.aload_n 3, 1) := by decide +kernel
theorem d_X_undoSteps_21 : decode c_X_undoSteps 21 = .ok (.invokevirtual 208, 3) := by decide +kernel
theorem d_X_undoSteps_24 : decode c_X_undoSteps 24 = .ok (.ladd, 1) := by decide +kernel
theorem d_X_undoSteps_25 : decode c_X_undoSteps 25 = .ok (.putfield 63, 3) := by decide +kernel
theorem d_X_undoSteps_28 : decode c_X_undoSteps 28 = .ok (.goto 20, 3) := by decide +kernel
theorem d_X_undoSteps_31 : decode c_X_undoSteps 31 = .ok (.iload 4, 2) := by decide +kernel
theorem d_X_undoSteps_33 : decode c_X_undoSteps 33 = .ok (.iconst 1, 1) := by decide +kernel
theorem d_X_undoSteps_34 : decode c_X_undoSteps 34 = .ok (.if_icmp .ne 14, 3) := by decide +kernel
theorem d_X_undoSteps_37 : decode c_X_undoSteps 37 = .ok (.aload_n 0, 1) := by decide +kernel
theorem d_X_undoSteps_38 : decode c_X_undoSteps 38 = .ok (.getfield 39, 3) := by decide +kernel
theorem d_X_undoSteps_41 : decode c_X_undoSteps 41 = .ok (.bipush 8, 2) := by decide +kernel
theorem d_X_undoSteps_43 : decode c_X_undoSteps 43 = .ok (.dup2, 1) := by decide +kernel
theorem d_X_undoSteps_44 : decode c_X_undoSteps 44 = .ok (.laload, 1) := by decide +kernel
theorem d_X_undoSteps_45 : decode c_X_undoSteps 45 = .ok (.lconst 1, 1) := by decide +kernel
theorem d_X_undoSteps_46 : decode c_X_undoSteps 46 = .ok (.lsub, 1) := by decide +kernel
theorem d_X_undoSteps_47 : decode c_X_undoSteps 47 = .ok (.lastore, 1) := by decide +kernel
theorem d_X_undoSteps_48 : decode c_X_undoSteps 48 = .ok (.iinc 4 (-1), 3) := by decide +kernel
theorem d_X_undoSteps_51 : decode c_X_undoSteps 51 = .ok (.goto (-48), 3) := by decide +kernel
theorem d_X_undoSteps_54 : decode c_X_undoSteps 54 = .ok (.return_, 1) := by decide +kernel
theorem d_X_goThroughSteps_0 : decode c_X_goThroughSteps 0 = .ok (.iconst 1, 1) := by decide +kernel
theorem d_X_goThroughSteps_1 : decode c_X_goThroughSteps 1 = .ok (.istore 6, 2) := by decide +kernel
theorem d_X_goThroughSteps_3 : decode c_X_goThroughSteps 3 = .ok (.iconst 0, 1) := by decide +kernel
theorem d_X_goThroughSteps_4 : decode c_X_goThroughSteps 4 = .ok (.istore 7, 2) := by decide +kernel
theorem d_X_goThroughSteps_6 : decode c_X_goThroughSteps 6 = .ok (.iconst 1, 1) := by decide +kernel
theorem d_X_goThroughSteps_7 : decode c_X_goThroughSteps 7 = .ok (.istore 8, 2) := by decide +kernel
theorem d_X_goThroughSteps_9 : decode c_X_goThroughSteps 9 = .ok (.iload 8, 2) := by decide +kernel
theorem d_X_goThroughSteps_11 : decode c_X_goThroughSteps 11 = .ok (.iconst 5, 1) := by decide +kernel
theorem d_X_goThroughSteps_12 : decode c_X_goThroughSteps 12 = .ok (.if_icmp .gt 52, 3) := by decide +kernel
theorem d_X_goThroughSteps_15 : decode c_X_goThroughSteps 15 = .ok (.iload 6, 2) := by decide +kernel
theorem d_X_goThroughSteps_17 : decode c_X_goThroughSteps 17 = .ok (.iconst 1, 1) := by decide +kernel
theorem d_X_goThroughSteps_18 : decode c_X_goThroughSteps 18 = .ok (.if_icmp .ne 46, 3) := by decide +kernel
theorem d_X_goThroughSteps_21 : decode c_X_goThroughSteps 21 = .ok (.aload_n 1, 1) := by decide +kernel
theorem d_X_goThroughSteps_22 : decode c_X_goThroughSteps 22 = .ok (.iload 8, 2) := by decide +kernel
theorem d_X_goThroughSteps_24 : decode c_X_goThroughSteps 24 = .ok (.invokevirtual 231, 3) := by decide +kernel
theorem d_X_goThroughSteps_27 : decode c_X_goThroughSteps 27 = .ok (.ifCond .eq 8, 3) := by decide +kernel
theorem d_X_goThroughSteps_30 : decode c_X_goThroughSteps 30 = .ok (.bipush (-108), 2) := by decide +kernel
theorem d_X_goThroughSteps_32 : decode c_X_goThroughSteps 32 = .ok (.goto 14, 3) := by decide +kernel
theorem d_X_goThroughSteps_35 : decode c_X_goThroughSteps 35 = .ok (.aload_n 0, 1) := by decide +kernel
theorem d_X_goThroughSteps_36 : decode c_X_goThroughSteps 36 = .ok (.iload 8, 2) := by decide +kernel
theorem d_X_goThroughSteps_38 : decode c_X_goThroughSteps 38 = .ok (.aload_n 1, 1) := by decide +kernel
theorem d_X_goThroughSteps_39 : decode c_X_goThroughSteps 39 = .ok (.aload_n 2, 1) := by decide +kernel
theorem d_X_goThroughSteps_40 : decode c_X_goThroughSteps 40 = .ok (.iload_n 3, 1) := by decide +kernel
theorem d_X_goThroughSteps_41 : decode c_X_goThroughSteps 41 = .ok (.lload 4, 2) := by decide +kernel
theorem d_X_goThroughSteps_43 : decode c_X_goThroughSteps 43 = .ok (.invokevirtual 234, 3) := by decide +kernel
theorem d_X_goThroughSteps_46 : decode c_X_goThroughSteps 46 = .ok (.istore 6, 2) := by decide +kernel
theorem d_X_goThroughSteps_48 : decode c_X_goThroughSteps 48 = .ok (.iload 6, 2) := by decide +kernel
theorem d_X_goThroughSteps_50 : decode c_X_goThroughSteps 50 = .ok (.iconst 1, 1) := by decide +kernel
theorem d_X_goThroughSteps_51 : decode c_X_goThroughSteps 51 = .ok (.if_icmp .ne 7, 3) := by decide +kernel
theorem d_X_goThroughSteps_54 : decode c_X_goThroughSteps 54 = .ok (.iload 8, 2) := by decide +kernel
theorem d_X_goThroughSteps_56 : decode c_X_goThroughSteps 56 = .ok (.istore 7, 2) := by decide +kernel
theorem d_X_goThroughSteps_58 : decode c_X_goThroughSteps 58 = .ok (.iinc 8 1, 3) := by decide +kernel
theorem d_X_goThroughSteps_61 : decode c_X_goThroughSteps 61 = .ok (.goto (-52), 3) := by decide +kernel
theorem d_X_goThroughSteps_64 : decode c_X_goThroughSteps 64 = .ok (.iload 6, 2) := by decide +kernel
theorem d_X_goThroughSteps_66 : decode c_X_goThroughSteps 66 = .ok (.bipush (-108), 2) := by decide +kernel
theorem d_X_goThroughSteps_68 : decode c_X_goThroughSteps 68 = .ok (.if_icmp .ne 14, 3) := by decide +kernel
theorem d_X_goThroughSteps_71 : decode c_X_goThroughSteps 71 = .ok (.aload_n 0, 1) := by decide +kernel
theorem d_X_goThroughSteps_72 : decode c_X_goThroughSteps 72 = .ok (.getfield 39, 3) := by decide +kernel
theorem d_X_goThroughSteps_75 : decode c_X_goThroughSteps 75 = .ok (.bipush 6, 2) := by decide +kernel
theorem d_X_goThroughSteps_77 : decode c_X_goThroughSteps 77 = .ok (.dup2, 1) := by decide +kernel
theorem d_X_goThroughSteps_78 : decode c_X_goThroughSteps 78 = .ok (.laload, 1) := by decide +kernel
theorem d_X_goThroughSteps_79 : decode c_X_goThroughSteps 79 = .ok (.lconst 1, 1) := by decide +kernel
theorem d_X_goThroughSteps_80 : decode c_X_goThroughSteps 80 = .ok (.ladd, 1) := by decide +kernel
theorem d_X_goThroughSteps_81 : decode c_X_goThroughSteps 81 = .ok (.lastore, 1) := by decide +kernel
theorem d_X_goThroughSteps_82 : decode c_X_goThroughSteps 82 = .ok (.iload 6, 2) := by decide +kernel
theorem d_X_goThroughSteps_84 : decode c_X_goThroughSteps 84 = .ok (.iconst 1, 1) := by decide +kernel
theorem d_X_goThroughSteps_85 : decode c_X_goThroughSteps 85 = .ok (.if_icmp .ne 17, 3) := by decide +kernel
theorem d_X_goThroughSteps_88 : decode c_X_goThroughSteps 88 = .ok (.aload_n 0, 1) := by decide +kernel
theorem d_X_goThroughSteps_89 : decode c_X_goThroughSteps 89 = .ok (.getfield 39, 3) := by decide +kernel
theorem d_X_goThroughSteps_92 : decode c_X_goThroughSteps 92 = .ok (.bipush 8, 2) := by decide +kernel
theorem d_X_goThroughSteps_94 : decode c_X_goThroughSteps 94 = .ok (.dup2, 1) := by decide +kernel
theorem d_X_goThroughSteps_95 : decode c_X_goThroughSteps 95 = .ok (.laload, 1) := by decide +kernel
theorem d_X_goThroughSteps_96 : decode c_X_goThroughSteps 96 = .ok (.lconst 1, 1) := by decide +kernel
theorem d_X_goThroughSteps_97 : decode c_X_goThroughSteps 97 = .ok (.lsub, 1) := by decide +kernel
theorem d_X_goThroughSteps_98 : decode c_X_goThroughSteps 98 = .ok (.lastore, 1) := by decide +kernel
theorem d_X_goThroughSteps_99 : decode c_X_goThroughSteps 99 = .ok (.goto 11, 3) := by decide +kernel
theorem d_X_goThroughSteps_102 : decode c_X_goThroughSteps 102 = .ok (.aload_n 0, 1) := by decide +kernel
theorem d_X_goThroughSteps_103 : decode c_X_goThroughSteps 103 = .ok (.iload 7, 2) := by decide +kernel
theorem d_X_goThroughSteps_105 : decode c_X_goThroughSteps 105 = .ok (.aload_n 1, 1) := by decide +kernel
theorem d_X_goThroughSteps_106 : decode c_X_goThroughSteps 106 = .ok (.aload_n 2, 1) := by decide +kernel
theorem d_X_goThroughSteps_107 : decode c_X_goThroughSteps 107 = .ok (.invokevirtual 238, 3) := by decide +kernel
theorem d_X_goThroughSteps_110 : decode c_X_goThroughSteps 110 = .ok (.iload 6, 2) := by decide +kernel
theorem d_X_goThroughSteps_112 : decode c_X_goThroughSteps 112 = .ok (.ireturn, 1) := by decide +kernel
theorem d_X_pay_0 : decode c_X_pay 0 = .ok (.aload_n 0, 1) := by decide +kernel
theorem d_X_pay_1 : decode c_X_pay 1 = .ok (.lload_n 2, 1) := by decide +kernel
theorem d_X_pay_2 : decode c_X_pay 2 = .ok (.invokevirtual 71, 3) := by decide +kernel
theorem d_X_pay_5 : decode c_X_pay 5 = .ok (.astore 7, 2) := by decide +kernel
theorem d_X_pay_7 : decode c_X_pay 7 = .ok (.aload 7, 2) := by decide +kernel
theorem d_X_pay_9 : decode c_X_pay 9 = .ok (.ifnonnull 6, 3) := by decide +kernel
theorem d_X_pay_12 : decode c_X_pay 12 = .ok (.bipush (-101), 2) := by decide +kernel
theorem d_X_pay_14 : decode c_X_pay 14 = .ok (.ireturn, 1) := by decide +kernel
theorem d_X_pay_15 : decode c_X_pay 15 = .ok (.aload_n 0, 1) := by decide +kernel
theorem d_X_pay_16 : decode c_X_pay 16 = .ok (.iload_n 1, 1) := by decide +kernel
theorem d_X_pay_17 : decode c_X_pay 17 = .ok (.invokevirtual 47, 3) := by decide +kernel
theorem d_X_pay_20 : decode c_X_pay 20 = .ok (.astore 8, 2) := by decide +kernel
theorem d_X_pay_22 : decode c_X_pay 22 = .ok (.aload 8, 2) := by decide +kernel
theorem d_X_pay_24 : decode c_X_pay 24 = .ok (.ifnull 10, 3) := by decide +kernel
theorem d_X_pay_27 : decode c_X_pay 27 = .ok (.lload 5, 2) := by decide +kernel
theorem d_X_pay_29 : decode c_X_pay 29 = .ok (.lconst 0, 1) := by decide +kernel
theorem d_X_pay_30 : decode c_X_pay 30 = .ok (.lcmp, 1) := by decide +kernel
theorem d_X_pay_31 : decode c_X_pay 31 = .ok (.ifCond .ge 6, 3) := by decide +kernel
theorem d_X_pay_34 : decode c_X_pay 34 = .ok (.bipush (-102), 2) := by decide +kernel
theorem d_X_pay_36 : decode c_X_pay 36 = .ok (.ireturn, 1) := by decide +kernel
theorem d_X_pay_37 : decode c_X_pay 37 = .ok (.aload 7, 2) := by decide +kernel
theorem d_X_pay_39 : decode c_X_pay 39 = .ok (.getfield 75, 3) := by decide +kernel
theorem d_X_pay_42 : decode c_X_pay 42 = .ok (.ifCond .ne 24, 3) := by decide +kernel
theorem d_X_pay_45 : decode c_X_pay 45 = .ok (.lload 5, 2) := by decide +kernel
theorem d_X_pay_47 : decode c_X_pay 47 = .ok (.aload 7, 2) := by decide +kernel
theorem d_X_pay_49 : decode c_X_pay 49 = .ok (.getfield 78, 3) := by decide +kernel
theorem d_X_pay_52 : decode c_X_pay 52 = .ok (.lcmp, 1) := by decide +kernel
theorem d_X_pay_53 : decode c_X_pay 53 = .ok (.ifCond .gt 13, 3) := by decide +kernel
theorem d_X_pay_56 : decode c_X_pay 56 = .ok (.aload 8, 2) := by decide +kernel
theorem d_X_pay_58 : decode c_X_pay 58 = .ok (.aload 7, 2) := by decide +kernel
theorem d_X_pay_60 : decode c_X_pay 60 = .ok (.invokevirtual 81, 3) := by decide +kernel
theorem d_X_pay_63 : decode c_X_pay 63 = .ok (.ifCond .ne 6, 3) := by decide +kernel
theorem d_X_pay_66 : decode c_X_pay 66 = .ok (.bipush (-103), 2) := by decide +kernel
theorem d_X_pay_68 : decode c_X_pay 68 = .ok (.ireturn, 1) := by decide +kernel
theorem d_X_pay_69 : decode c_X_pay 69 = .ok (.aload_n 0, 1) := by decide +kernel
theorem d_X_pay_70 : decode c_X_pay 70 = .ok (.aload 8, 2) := by decide +kernel
theorem d_X_pay_72 : decode c_X_pay 72 = .ok (.aload 7, 2) := by decide +kernel
theorem d_X_pay_74 : decode c_X_pay 74 = .ok (.iload 4, 2) := by decide +kernel
theorem d_X_pay_76 : decode c_X_pay 76 = .ok (.lload 5, 2) := by decide +kernel
theorem d_X_pay_78 : decode c_X_pay 78 = .ok (.ldc2_w 85, 3) := by decide +kernel
theorem d_X_pay_81 : decode c_X_pay 81 = .ok (.ldiv, 1) := by decide +kernel
theorem d_X_pay_82 : decode c_X_pay 82 = .ok (.invokevirtual 87, 3) := by decide +kernel
theorem d_X_pay_85 : decode c_X_pay 85 = .ok (.ireturn, 1) := by decide +kernel
theorem d_Office_tellToFail_0 : decode c_Office_tellToFail 0 = .ok (.iconst 1, 1) := by decide +kernel
theorem d_Office_tellToFail_1 : decode c_Office_tellToFail 1 = .ok (.iload_n 1, 1) := by decide +kernel
theorem d_Office_tellToFail_2 : decode c_Office_tellToFail 2 = .ok (.ishl, 1) := by decide +kernel
theorem d_Office_tellToFail_3 : decode c_Office_tellToFail 3 = .ok (.istore_n 2, 1) := by decide +kernel
theorem d_Office_tellToFail_4 : decode c_Office_tellToFail 4 = .ok (.aload_n 0, 1) := by decide +kernel
theorem d_Office_tellToFail_5 : decode c_Office_tellToFail 5 = .ok (.getfield 34, 3) := by decide +kernel
theorem d_Office_tellToFail_8 : decode c_Office_tellToFail 8 = .ok (.iload_n 2, 1) := by decide +kernel
theorem d_Office_tellToFail_9 : decode c_Office_tellToFail 9 = .ok (.iand, 1) := by decide +kernel
theorem d_Office_tellToFail_10 : decode c_Office_tellToFail 10 = .ok (.ifCond .ne 7, 3) := by decide +kernel
theorem d_Office_tellToFail_13 : decode c_Office_tellToFail 13 = .ok (.iconst 1, 1) := by decide +kernel
theorem d_Office_tellToFail_14 : decode c_Office_tellToFail 14 = .ok (.goto 4, 3) := by decide +kernel
theorem d_Office_tellToFail_17 : decode c_Office_tellToFail 17 = .ok (.iconst 0, 1) := by decide +kernel
theorem d_Office_tellToFail_18 : decode c_Office_tellToFail 18 = .ok (.istore_n 3, 1) := by decide +kernel
theorem d_Office_tellToFail_19 : decode c_Office_tellToFail 19 = .ok (.aload_n 0, 1) := by decide +kernel
theorem d_Office_tellToFail_20 : decode c_Office_tellToFail 20 = .ok (.dup, 1) := by decide +kernel
theorem d_Office_tellToFail_21 : decode c_Office_tellToFail 21 = .ok (.getfield 34, 3) := by decide +kernel
theorem d_Office_tellToFail_24 : decode c_Office_tellToFail 24 = .ok (.iload_n 2, 1) := by decide +kernel
theorem d_Office_tellToFail_25 : decode c_Office_tellToFail 25 = .ok (.ior, 1) := by decide +kernel
theorem d_Office_tellToFail_26 : decode c_Office_tellToFail 26 = .ok (.putfield 34, 3) := by decide +kernel
theorem d_Office_tellToFail_29 : decode c_Office_tellToFail 29 = .ok (.iload_n 3, 1) := by decide +kernel
theorem d_Office_tellToFail_30 : decode c_Office_tellToFail 30 = .ok (.ireturn, 1) := by decide +kernel
theorem d_X_fails_0 : decode c_X_fails 0 = .ok (.aload_n 0, 1) := by decide +kernel
theorem d_X_fails_1 : decode c_X_fails 1 = .ok (.iload_n 1, 1) := by decide +kernel
theorem d_X_fails_2 : decode c_X_fails 2 = .ok (.invokevirtual 47, 3) := by decide +kernel
theorem d_X_fails_5 : decode c_X_fails 5 = .ok (.astore_n 3, 1) := by decide +kernel
theorem d_X_fails_6 : decode c_X_fails 6 = .ok (.aload_n 3, 1) := by decide +kernel
theorem d_X_fails_7 : decode c_X_fails 7 = .ok (.ifnull 13, 3) := by decide +kernel
theorem d_X_fails_10 : decode c_X_fails 10 = .ok (.iload_n 2, 1) := by decide +kernel
theorem d_X_fails_11 : decode c_X_fails 11 = .ok (.iconst 1, 1) := by decide +kernel
theorem d_X_fails_12 : decode c_X_fails 12 = .ok (.if_icmp .lt 8, 3) := by decide +kernel
theorem d_X_fails_15 : decode c_X_fails 15 = .ok (.iload_n 2, 1) := by decide +kernel
theorem d_X_fails_16 : decode c_X_fails 16 = .ok (.iconst 5, 1) := by decide +kernel
theorem d_X_fails_17 : decode c_X_fails 17 = .ok (.if_icmp .le 6, 3) := by decide +kernel
theorem d_X_fails_20 : decode c_X_fails 20 = .ok (.bipush (-102), 2) := by decide +kernel
theorem d_X_fails_22 : decode c_X_fails 22 = .ok (.ireturn, 1) := by decide +kernel
theorem d_X_fails_23 : decode c_X_fails 23 = .ok (.aload_n 3, 1) := by decide +kernel
theorem d_X_fails_24 : decode c_X_fails 24 = .ok (.iload_n 2, 1) := by decide +kernel
theorem d_X_fails_25 : decode c_X_fails 25 = .ok (.invokevirtual 91, 3) := by decide +kernel
theorem d_X_fails_28 : decode c_X_fails 28 = .ok (.ifCond .eq 7, 3) := by decide +kernel
theorem d_X_fails_31 : decode c_X_fails 31 = .ok (.iconst 1, 1) := by decide +kernel
theorem d_X_fails_32 : decode c_X_fails 32 = .ok (.goto 4, 3) := by decide +kernel
theorem d_X_fails_35 : decode c_X_fails 35 = .ok (.iconst 0, 1) := by decide +kernel
theorem d_X_fails_36 : decode c_X_fails 36 = .ok (.ireturn, 1) := by decide +kernel
