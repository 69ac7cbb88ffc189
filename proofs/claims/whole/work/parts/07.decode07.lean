theorem d_M_pay_463 : decode c_M_pay 463 = .ok (.goto 4, 3) := by decide +kernel
theorem d_M_pay_466 : decode c_M_pay 466 = .ok (.lconst 0, 1) := by decide +kernel
theorem d_M_pay_467 : decode c_M_pay 467 = .ok (.ladd, 1) := by decide +kernel
theorem d_M_pay_468 : decode c_M_pay 468 = .ok (.lastore, 1) := by decide +kernel
theorem d_M_pay_469 : decode c_M_pay 469 = .ok (.iconst 1, 1) := by decide +kernel
theorem d_M_pay_470 : decode c_M_pay 470 = .ok (.ireturn, 1) := by decide +kernel
theorem d_M_fails_0 : decode c_M_fails 0 = .ok (.iload_n 1, 1) := by decide +kernel
theorem d_M_fails_1 : decode c_M_fails 1 = .ok (.invokestatic 114, 3) := by decide +kernel
theorem d_M_fails_4 : decode c_M_fails 4 = .ok (.ifCond .eq 15, 3) := by decide +kernel
theorem d_M_fails_7 : decode c_M_fails 7 = .ok (.iload_n 2, 1) := by decide +kernel
theorem d_M_fails_8 : decode c_M_fails 8 = .ok (.i2l, 1) := by decide +kernel
theorem d_M_fails_9 : decode c_M_fails 9 = .ok (.lconst 1, 1) := by decide +kernel
theorem d_M_fails_10 : decode c_M_fails 10 = .ok (.ldc2_w 140, 3) := by decide +kernel
theorem d_M_fails_13 : decode c_M_fails 13 = .ok (.invokestatic 102, 3) := by decide +kernel
theorem d_M_fails_16 : decode c_M_fails 16 = .ok (.ifCond .ne 6, 3) := by decide +kernel
theorem d_M_fails_19 : decode c_M_fails 19 = .ok (.bipush (-102), 2) := by decide +kernel
theorem d_M_fails_21 : decode c_M_fails 21 = .ok (.ireturn, 1) := by decide +kernel
theorem d_M_fails_22 : decode c_M_fails 22 = .ok (.aload_n 0, 1) := by decide +kernel
theorem d_M_fails_23 : decode c_M_fails 23 = .ok (.getfield 58, 3) := by decide +kernel
theorem d_M_fails_26 : decode c_M_fails 26 = .ok (.iload_n 1, 1) := by decide +kernel
theorem d_M_fails_27 : decode c_M_fails 27 = .ok (.iaload, 1) := by decide +kernel
theorem d_M_fails_28 : decode c_M_fails 28 = .ok (.iload_n 2, 1) := by decide +kernel
theorem d_M_fails_29 : decode c_M_fails 29 = .ok (.ishr, 1) := by decide +kernel
theorem d_M_fails_30 : decode c_M_fails 30 = .ok (.iconst 1, 1) := by decide +kernel
theorem d_M_fails_31 : decode c_M_fails 31 = .ok (.iand, 1) := by decide +kernel
theorem d_M_fails_32 : decode c_M_fails 32 = .ok (.iconst 1, 1) := by decide +kernel
theorem d_M_fails_33 : decode c_M_fails 33 = .ok (.if_icmp .ne 7, 3) := by decide +kernel
theorem d_M_fails_36 : decode c_M_fails 36 = .ok (.iconst 1, 1) := by decide +kernel
theorem d_M_fails_37 : decode c_M_fails 37 = .ok (.goto 4, 3) := by decide +kernel
theorem d_M_fails_40 : decode c_M_fails 40 = .ok (.iconst 0, 1) := by decide +kernel
theorem d_M_fails_41 : decode c_M_fails 41 = .ok (.istore_n 3, 1) := by decide +kernel
theorem d_M_fails_42 : decode c_M_fails 42 = .ok (.aload_n 0, 1) := by decide +kernel
theorem d_M_fails_43 : decode c_M_fails 43 = .ok (.getfield 58, 3) := by decide +kernel
theorem d_M_fails_46 : decode c_M_fails 46 = .ok (.iload_n 1, 1) := by decide +kernel
theorem d_M_fails_47 : decode c_M_fails 47 = .ok (.dup2, 1) := by decide +kernel
theorem d_M_fails_48 : decode c_M_fails 48 = .ok (.iaload, 1) := by decide +kernel
theorem d_M_fails_49 : decode c_M_fails 49 = .ok (.iconst 1, 1) := by decide +kernel
theorem d_M_fails_50 : decode c_M_fails 50 = .ok (.iload_n 2, 1) := by decide +kernel
theorem d_M_fails_51 : decode c_M_fails 51 = .ok (.ishl, 1) := by decide +kernel
theorem d_M_fails_52 : decode c_M_fails 52 = .ok (.ior, 1) := by decide +kernel
theorem d_M_fails_53 : decode c_M_fails 53 = .ok (.iastore, 1) := by decide +kernel
theorem d_M_fails_54 : decode c_M_fails 54 = .ok (.iload_n 3, 1) := by decide +kernel
theorem d_M_fails_55 : decode c_M_fails 55 = .ok (.ifCond .eq 7, 3) := by decide +kernel
theorem d_M_fails_58 : decode c_M_fails 58 = .ok (.iconst 0, 1) := by decide +kernel
theorem d_M_fails_59 : decode c_M_fails 59 = .ok (.goto 4, 3) := by decide +kernel
theorem d_M_fails_62 : decode c_M_fails 62 = .ok (.iconst 1, 1) := by decide +kernel
theorem d_M_fails_63 : decode c_M_fails 63 = .ok (.ireturn, 1) := by decide +kernel
theorem d_M_ask_0 : decode c_M_ask 0 = .ok (.iload_n 1, 1) := by decide +kernel
theorem d_M_ask_1 : decode c_M_ask 1 = .ok (.invokestatic 114, 3) := by decide +kernel
theorem d_M_ask_4 : decode c_M_ask 4 = .ok (.ifCond .eq 10, 3) := by decide +kernel
theorem d_M_ask_7 : decode c_M_ask 7 = .ok (.lload 5, 2) := by decide +kernel
theorem d_M_ask_9 : decode c_M_ask 9 = .ok (.lconst 0, 1) := by decide +kernel
theorem d_M_ask_10 : decode c_M_ask 10 = .ok (.lcmp, 1) := by decide +kernel
theorem d_M_ask_11 : decode c_M_ask 11 = .ok (.ifCond .ge 6, 3) := by decide +kernel
theorem d_M_ask_14 : decode c_M_ask 14 = .ok (.bipush (-102), 2) := by decide +kernel
theorem d_M_ask_16 : decode c_M_ask 16 = .ok (.ireturn, 1) := by decide +kernel
theorem d_M_ask_17 : decode c_M_ask 17 = .ok (.aload_n 0, 1) := by decide +kernel
theorem d_M_ask_18 : decode c_M_ask 18 = .ok (.getfield 142, 3) := by decide +kernel
theorem d_M_ask_21 : decode c_M_ask 21 = .ok (.aload_n 0, 1) := by decide +kernel
theorem d_M_ask_22 : decode c_M_ask 22 = .ok (.getfield 145, 3) := by decide +kernel
theorem d_M_ask_25 : decode c_M_ask 25 = .ok (.isub, 1) := by decide +kernel
theorem d_M_ask_26 : decode c_M_ask 26 = .ok (.bipush 20, 2) := by decide +kernel
theorem d_M_ask_28 : decode c_M_ask 28 = .ok (.if_icmp .ne 6, 3) := by decide +kernel
theorem d_M_ask_31 : decode c_M_ask 31 = .ok (.bipush (-104), 2) := by decide +kernel
theorem d_M_ask_33 : decode c_M_ask 33 = .ok (.ireturn, 1) := by decide +kernel
theorem d_M_ask_34 : decode c_M_ask 34 = .ok (.aload_n 0, 1) := by decide +kernel
theorem d_M_ask_35 : decode c_M_ask 35 = .ok (.getfield 73, 3) := by decide +kernel
theorem d_M_ask_38 : decode c_M_ask 38 = .ok (.aload_n 0, 1) := by decide +kernel
theorem d_M_ask_39 : decode c_M_ask 39 = .ok (.getfield 142, 3) := by decide +kernel
theorem d_M_ask_42 : decode c_M_ask 42 = .ok (.sipush 128, 3) := by decide +kernel
theorem d_M_ask_45 : decode c_M_ask 45 = .ok (.irem, 1) := by decide +kernel
theorem d_M_ask_46 : decode c_M_ask 46 = .ok (.iload_n 1, 1) := by decide +kernel
theorem d_M_ask_47 : decode c_M_ask 47 = .ok (.iastore, 1) := by decide +kernel
theorem d_M_ask_48 : decode c_M_ask 48 = .ok (.aload_n 0, 1) := by decide +kernel
theorem d_M_ask_49 : decode c_M_ask 49 = .ok (.getfield 76, 3) := by decide +kernel
theorem d_M_ask_52 : decode c_M_ask 52 = .ok (.aload_n 0, 1) := by decide +kernel
theorem d_M_ask_53 : decode c_M_ask 53 = .ok (.getfield 142, 3) := by decide +kernel
theorem d_M_ask_56 : decode c_M_ask 56 = .ok (.sipush 128, 3) := by decide +kernel
theorem d_M_ask_59 : decode c_M_ask 59 = .ok (.irem, 1) := by decide +kernel
theorem d_M_ask_60 : decode c_M_ask 60 = .ok (.lload_n 2, 1) := by decide +kernel
theorem d_M_ask_61 : decode c_M_ask 61 = .ok (.lastore, 1) := by decide +kernel
theorem d_M_ask_62 : decode c_M_ask 62 = .ok (.aload_n 0, 1) := by decide +kernel
theorem d_M_ask_63 : decode c_M_ask 63 = .ok (.getfield 79, 3) := by decide +kernel
theorem d_M_ask_66 : decode c_M_ask 66 = .ok (.aload_n 0, 1) := by decide +kernel
theorem d_M_ask_67 : decode c_M_ask 67 = .ok (.getfield 142, 3) := by decide +kernel
theorem d_M_ask_70 : decode c_M_ask 70 = .ok (.sipush 128, 3) := by decide +kernel
theorem d_M_ask_73 : decode c_M_ask 73 = .ok (.irem, 1) := by decide +kernel
theorem d_M_ask_74 : decode c_M_ask 74 = .ok (.iload 4, 2) := by decide +kernel
theorem d_M_ask_76 : decode c_M_ask 76 = .ok (.iastore, 1) := by decide +kernel
theorem d_M_ask_77 : decode c_M_ask 77 = .ok (.aload_n 0, 1) := by decide +kernel
theorem d_M_ask_78 : decode c_M_ask 78 = .ok (.getfield 82, 3) := by decide +kernel
theorem d_M_ask_81 : decode c_M_ask 81 = .ok (.aload_n 0, 1) := by decide +kernel
theorem d_M_ask_82 : decode c_M_ask 82 = .ok (.getfield 142, 3) := by decide +kernel
theorem d_M_ask_85 : decode c_M_ask 85 = .ok (.sipush 128, 3) := by decide +kernel
theorem d_M_ask_88 : decode c_M_ask 88 = .ok (.irem, 1) := by decide +kernel
theorem d_M_ask_89 : decode c_M_ask 89 = .ok (.lload 5, 2) := by decide +kernel
theorem d_M_ask_91 : decode c_M_ask 91 = .ok (.lastore, 1) := by decide +kernel
theorem d_M_ask_92 : decode c_M_ask 92 = .ok (.aload_n 0, 1) := by decide +kernel
theorem d_M_ask_93 : decode c_M_ask 93 = .ok (.dup, 1) := by decide +kernel
theorem d_M_ask_94 : decode c_M_ask 94 = .ok (.getfield 142, 3) := by decide +kernel
theorem d_M_ask_97 : decode c_M_ask 97 = .ok (.iconst 1, 1) := by decide +kernel
theorem d_M_ask_98 : decode c_M_ask 98 = .ok (.iadd, 1) := by decide +kernel
theorem d_M_ask_99 : decode c_M_ask 99 = .ok (.putfield 142, 3) := by decide +kernel
theorem d_M_ask_102 : decode c_M_ask 102 = .ok (.aload_n 0, 1) := by decide +kernel
theorem d_M_ask_103 : decode c_M_ask 103 = .ok (.getfield 142, 3) := by decide +kernel
theorem d_M_ask_106 : decode c_M_ask 106 = .ok (.iconst 1, 1) := by decide +kernel
theorem d_M_ask_107 : decode c_M_ask 107 = .ok (.isub, 1) := by decide +kernel
theorem d_M_ask_108 : decode c_M_ask 108 = .ok (.ireturn, 1) := by decide +kernel
theorem d_M_serve_0 : decode c_M_serve 0 = .ok (.iload_n 1, 1) := by decide +kernel
theorem d_M_serve_1 : decode c_M_serve 1 = .ok (.ifCond .ge 6, 3) := by decide +kernel
theorem d_M_serve_4 : decode c_M_serve 4 = .ok (.bipush (-102), 2) := by decide +kernel
theorem d_M_serve_6 : decode c_M_serve 6 = .ok (.ireturn, 1) := by decide +kernel
theorem d_M_serve_7 : decode c_M_serve 7 = .ok (.iconst 0, 1) := by decide +kernel
theorem d_M_serve_8 : decode c_M_serve 8 = .ok (.istore_n 2, 1) := by decide +kernel
theorem d_M_serve_9 : decode c_M_serve 9 = .ok (.iload_n 2, 1) := by decide +kernel
theorem d_M_serve_10 : decode c_M_serve 10 = .ok (.iload_n 1, 1) := by decide +kernel
theorem d_M_serve_11 : decode c_M_serve 11 = .ok (.if_icmp .ge 73, 3) := by decide +kernel
theorem d_M_serve_14 : decode c_M_serve 14 = .ok (.aload_n 0, 1) := by decide +kernel
theorem d_M_serve_15 : decode c_M_serve 15 = .ok (.getfield 145, 3) := by decide +kernel
theorem d_M_serve_18 : decode c_M_serve 18 = .ok (.aload_n 0, 1) := by decide +kernel
theorem d_M_serve_19 : decode c_M_serve 19 = .ok (.getfield 142, 3) := by decide +kernel
theorem d_M_serve_22 : decode c_M_serve 22 = .ok (.if_icmp .ge 62, 3) := by decide +kernel
theorem d_M_serve_25 : decode c_M_serve 25 = .ok (.aload_n 0, 1) := by decide +kernel
theorem d_M_serve_26 : decode c_M_serve 26 = .ok (.getfield 145, 3) := by decide +kernel
theorem d_M_serve_29 : decode c_M_serve 29 = .ok (.sipush 128, 3) := by decide +kernel
theorem d_M_serve_32 : decode c_M_serve 32 = .ok (.irem, 1) := by decide +kernel
theorem d_M_serve_33 : decode c_M_serve 33 = .ok (.istore_n 3, 1) := by decide +kernel
theorem d_M_serve_34 : decode c_M_serve 34 = .ok (.aload_n 0, 1) := by decide +kernel
theorem d_M_serve_35 : decode c_M_serve 35 = .ok (.getfield 85, 3) := by decide +kernel
theorem d_M_serve_38 : decode c_M_serve 38 = .ok (.iload_n 3, 1) := by decide +kernel
theorem d_M_serve_39 : decode c_M_serve 39 = .ok (.aload_n 0, 1) := by decide +kernel
theorem d_M_serve_40 : decode c_M_serve 40 = .ok (.aload_n 0, 1) := by decide +kernel
theorem d_M_serve_41 : decode c_M_serve 41 = .ok (.getfield 73, 3) := by decide +kernel
theorem d_M_serve_44 : decode c_M_serve 44 = .ok (.iload_n 3, 1) := by decide +kernel
theorem d_M_serve_45 : decode c_M_serve 45 = .ok (.iaload, 1) := by decide +kernel
theorem d_M_serve_46 : decode c_M_serve 46 = .ok (.aload_n 0, 1) := by decide +kernel
theorem d_M_serve_47 : decode c_M_serve 47 = .ok (.getfield 76, 3) := by decide +kernel
theorem d_M_serve_50 : decode c_M_serve 50 = .ok (.iload_n 3, 1) := by decide +kernel
theorem d_M_serve_51 : decode c_M_serve 51 = .ok (.laload, 1) := by decide +kernel
theorem d_M_serve_52 : decode c_M_serve 52 = .ok (.aload_n 0, 1) := by decide +kernel
theorem d_M_serve_53 : decode c_M_serve 53 = .ok (.getfield 79, 3) := by decide +kernel
theorem d_M_serve_56 : decode c_M_serve 56 = .ok (.iload_n 3, 1) := by decide +kernel
theorem d_M_serve_57 : decode c_M_serve 57 = .ok (.iaload, 1) := by decide +kernel
theorem d_M_serve_58 : decode c_M_serve 58 = .ok (.aload_n 0, 1) := by decide +kernel
theorem d_M_serve_59 : decode c_M_serve 59 = .ok (.getfield 82, 3) := by decide +kernel
theorem d_M_serve_62 : decode c_M_serve 62 = .ok (.iload_n 3, 1) := by decide +kernel
theorem d_M_serve_63 : decode c_M_serve 63 = .ok (.laload, 1) := by decide +kernel
theorem d_M_serve_64 : decode c_M_serve 64 = .ok (.invokevirtual 148, 3) := by decide +kernel
theorem d_M_serve_67 : decode c_M_serve 67 = .ok (.iastore, 1) := by decide +kernel
theorem d_M_serve_68 : decode c_M_serve 68 = .ok (.aload_n 0, 1) := by decide +kernel
theorem d_M_serve_69 : decode c_M_serve 69 = .ok (.dup, 1) := by decide +kernel
theorem d_M_serve_70 : decode c_M_serve 70 = .ok (.getfield 145, 3) := by decide +kernel
theorem d_M_serve_73 : decode c_M_serve 73 = .ok (.iconst 1, 1) := by decide +kernel
theorem d_M_serve_74 : decode c_M_serve 74 = .ok (.iadd, 1) := by decide +kernel
theorem d_M_serve_75 : decode c_M_serve 75 = .ok (.putfield 145, 3) := by decide +kernel
theorem d_M_serve_78 : decode c_M_serve 78 = .ok (.iinc 2 1, 3) := by decide +kernel
theorem d_M_serve_81 : decode c_M_serve 81 = .ok (.goto (-72), 3) := by decide +kernel
theorem d_M_serve_84 : decode c_M_serve 84 = .ok (.iload_n 2, 1) := by decide +kernel
theorem d_M_serve_85 : decode c_M_serve 85 = .ok (.ireturn, 1) := by decide +kernel
theorem d_M_answer_0 : decode c_M_answer 0 = .ok (.iload_n 1, 1) := by decide +kernel
theorem d_M_answer_1 : decode c_M_answer 1 = .ok (.ifCond .lt 35, 3) := by decide +kernel
theorem d_M_answer_4 : decode c_M_answer 4 = .ok (.iload_n 1, 1) := by decide +kernel
theorem d_M_answer_5 : decode c_M_answer 5 = .ok (.aload_n 0, 1) := by decide +kernel
theorem d_M_answer_6 : decode c_M_answer 6 = .ok (.getfield 145, 3) := by decide +kernel
theorem d_M_answer_9 : decode c_M_answer 9 = .ok (.if_icmp .ge 27, 3) := by decide +kernel
theorem d_M_answer_12 : decode c_M_answer 12 = .ok (.iload_n 1, 1) := by decide +kernel
theorem d_M_answer_13 : decode c_M_answer 13 = .ok (.aload_n 0, 1) := by decide +kernel
theorem d_M_answer_14 : decode c_M_answer 14 = .ok (.getfield 142, 3) := by decide +kernel
theorem d_M_answer_17 : decode c_M_answer 17 = .ok (.bipush 100, 2) := by decide +kernel
theorem d_M_answer_19 : decode c_M_answer 19 = .ok (.isub, 1) := by decide +kernel
theorem d_M_answer_20 : decode c_M_answer 20 = .ok (.if_icmp .lt 16, 3) := by decide +kernel
theorem d_M_answer_23 : decode c_M_answer 23 = .ok (.aload_n 0, 1) := by decide +kernel
theorem d_M_answer_24 : decode c_M_answer 24 = .ok (.getfield 85, 3) := by decide +kernel
theorem d_M_answer_27 : decode c_M_answer 27 = .ok (.iload_n 1, 1) := by decide +kernel
theorem d_M_answer_28 : decode c_M_answer 28 = .ok (.sipush 128, 3) := by decide +kernel
theorem d_M_answer_31 : decode c_M_answer 31 = .ok (.irem, 1) := by decide +kernel
theorem d_M_answer_32 : decode c_M_answer 32 = .ok (.iaload, 1) := by decide +kernel
theorem d_M_answer_33 : decode c_M_answer 33 = .ok (.goto 4, 3) := by decide +kernel
theorem d_M_answer_36 : decode c_M_answer 36 = .ok (.iconst (-1), 1) := by decide +kernel
theorem d_M_answer_37 : decode c_M_answer 37 = .ok (.ireturn, 1) := by decide +kernel
theorem d_M_bar_0 : decode c_M_bar 0 = .ok (.aload_n 0, 1) := by decide +kernel
theorem d_M_bar_1 : decode c_M_bar 1 = .ok (.lload_n 1, 1) := by decide +kernel
theorem d_M_bar_2 : decode c_M_bar 2 = .ok (.invokevirtual 126, 3) := by decide +kernel
theorem d_M_bar_5 : decode c_M_bar 5 = .ok (.istore 5, 2) := by decide +kernel
theorem d_M_bar_7 : decode c_M_bar 7 = .ok (.iload 5, 2) := by decide +kernel
theorem d_M_bar_9 : decode c_M_bar 9 = .ok (.ifCond .ne 6, 3) := by decide +kernel
theorem d_M_bar_12 : decode c_M_bar 12 = .ok (.bipush (-101), 2) := by decide +kernel
theorem d_M_bar_14 : decode c_M_bar 14 = .ok (.ireturn, 1) := by decide +kernel
theorem d_M_bar_15 : decode c_M_bar 15 = .ok (.lload_n 3, 1) := by decide +kernel
theorem d_M_bar_16 : decode c_M_bar 16 = .ok (.lconst 0, 1) := by decide +kernel
theorem d_M_bar_17 : decode c_M_bar 17 = .ok (.lcmp, 1) := by decide +kernel
theorem d_M_bar_18 : decode c_M_bar 18 = .ok (.ifCond .ge 6, 3) := by decide +kernel
theorem d_M_bar_21 : decode c_M_bar 21 = .ok (.bipush (-102), 2) := by decide +kernel
theorem d_M_bar_23 : decode c_M_bar 23 = .ok (.ireturn, 1) := by decide +kernel
theorem d_M_bar_24 : decode c_M_bar 24 = .ok (.aload_n 0, 1) := by decide +kernel
theorem d_M_bar_25 : decode c_M_bar 25 = .ok (.getfield 7, 3) := by decide +kernel
theorem d_M_bar_28 : decode c_M_bar 28 = .ok (.iload 5, 2) := by decide +kernel
theorem d_M_bar_30 : decode c_M_bar 30 = .ok (.iaload, 1) := by decide +kernel
theorem d_M_bar_31 : decode c_M_bar 31 = .ok (.ifCond .eq 6, 3) := by decide +kernel
theorem d_M_bar_34 : decode c_M_bar 34 = .ok (.bipush (-103), 2) := by decide +kernel
theorem d_M_bar_36 : decode c_M_bar 36 = .ok (.ireturn, 1) := by decide +kernel
theorem d_M_bar_37 : decode c_M_bar 37 = .ok (.aload_n 0, 1) := by decide +kernel
theorem d_M_bar_38 : decode c_M_bar 38 = .ok (.getfield 7, 3) := by decide +kernel
theorem d_M_bar_41 : decode c_M_bar 41 = .ok (.iload 5, 2) := by decide +kernel
theorem d_M_bar_43 : decode c_M_bar 43 = .ok (.iconst 2, 1) := by decide +kernel
theorem d_M_bar_44 : decode c_M_bar 44 = .ok (.iastore, 1) := by decide +kernel
theorem d_M_bar_45 : decode c_M_bar 45 = .ok (.aload_n 0, 1) := by decide +kernel
theorem d_M_bar_46 : decode c_M_bar 46 = .ok (.getfield 35, 3) := by decide +kernel
theorem d_M_bar_49 : decode c_M_bar 49 = .ok (.iload 5, 2) := by decide +kernel
theorem d_M_bar_51 : decode c_M_bar 51 = .ok (.lload_n 3, 1) := by decide +kernel
theorem d_M_bar_52 : decode c_M_bar 52 = .ok (.lastore, 1) := by decide +kernel
theorem d_M_bar_53 : decode c_M_bar 53 = .ok (.aload_n 0, 1) := by decide +kernel
theorem d_M_bar_54 : decode c_M_bar 54 = .ok (.getfield 38, 3) := by decide +kernel
theorem d_M_bar_57 : decode c_M_bar 57 = .ok (.iload 5, 2) := by decide +kernel
theorem d_M_bar_59 : decode c_M_bar 59 = .ok (.iconst 1, 1) := by decide +kernel
theorem d_M_bar_60 : decode c_M_bar 60 = .ok (.bastore, 1) := by decide +kernel
theorem d_M_bar_61 : decode c_M_bar 61 = .ok (.aload_n 0, 1) := by decide +kernel
theorem d_M_bar_62 : decode c_M_bar 62 = .ok (.getfield 32, 3) := by decide +kernel
theorem d_M_bar_65 : decode c_M_bar 65 = .ok (.iload 5, 2) := by decide +kernel
theorem d_M_bar_67 : decode c_M_bar 67 = .ok (.iconst (-1), 1) := by decide +kernel
theorem d_M_bar_68 : decode c_M_bar 68 = .ok (.iastore, 1) := by decide +kernel
theorem d_M_bar_69 : decode c_M_bar 69 = .ok (.iconst 1, 1) := by decide +kernel
theorem d_M_bar_70 : decode c_M_bar 70 = .ok (.ireturn, 1) := by decide +kernel
theorem d_M_since_0 : decode c_M_since 0 = .ok (.aload_n 0, 1) := by decide +kernel
theorem d_M_since_1 : decode c_M_since 1 = .ok (.lload_n 1, 1) := by decide +kernel
theorem d_M_since_2 : decode c_M_since 2 = .ok (.invokevirtual 126, 3) := by decide +kernel
theorem d_M_since_5 : decode c_M_since 5 = .ok (.istore_n 3, 1) := by decide +kernel
theorem d_M_since_6 : decode c_M_since 6 = .ok (.iload_n 3, 1) := by decide +kernel
theorem d_M_since_7 : decode c_M_since 7 = .ok (.ifCond .ne 9, 3) := by decide +kernel
theorem d_M_since_10 : decode c_M_since 10 = .ok (.ldc2_w 152, 3) := by decide +kernel
theorem d_M_since_13 : decode c_M_since 13 = .ok (.goto 24, 3) := by decide +kernel
theorem d_M_since_16 : decode c_M_since 16 = .ok (.aload_n 0, 1) := by decide +kernel
theorem d_M_since_17 : decode c_M_since 17 = .ok (.getfield 38, 3) := by decide +kernel
theorem d_M_since_20 : decode c_M_since 20 = .ok (.iload_n 3, 1) := by decide +kernel
theorem d_M_since_21 : decode c_M_since 21 = .ok (.baload, 1) := by decide +kernel
theorem d_M_since_22 : decode c_M_since 22 = .ok (.ifCond .eq 12, 3) := by decide +kernel
theorem d_M_since_25 : decode c_M_since 25 = .ok (.aload_n 0, 1) := by decide +kernel
theorem d_M_since_26 : decode c_M_since 26 = .ok (.getfield 35, 3) := by decide +kernel
theorem d_M_since_29 : decode c_M_since 29 = .ok (.iload_n 3, 1) := by decide +kernel
theorem d_M_since_30 : decode c_M_since 30 = .ok (.laload, 1) := by decide +kernel
theorem d_M_since_31 : decode c_M_since 31 = .ok (.goto 6, 3) := by decide +kernel
theorem d_M_since_34 : decode c_M_since 34 = .ok (.ldc2_w 50, 3) := by decide +kernel
theorem d_M_since_37 : decode c_M_since 37 = .ok (.lreturn, 1) := by decide +kernel
theorem d_M_replace_0 : decode c_M_replace 0 = .ok (.aload_n 0, 1) := by decide +kernel
theorem d_M_replace_1 : decode c_M_replace 1 = .ok (.lload_n 1, 1) := by decide +kernel
theorem d_M_replace_2 : decode c_M_replace 2 = .ok (.invokevirtual 126, 3) := by decide +kernel
theorem d_M_replace_5 : decode c_M_replace 5 = .ok (.istore_n 3, 1) := by decide +kernel
theorem d_M_replace_6 : decode c_M_replace 6 = .ok (.iload_n 3, 1) := by decide +kernel
theorem d_M_replace_7 : decode c_M_replace 7 = .ok (.ifCond .ne 6, 3) := by decide +kernel
theorem d_M_replace_10 : decode c_M_replace 10 = .ok (.bipush (-101), 2) := by decide +kernel
theorem d_M_replace_12 : decode c_M_replace 12 = .ok (.ireturn, 1) := by decide +kernel
theorem d_M_replace_13 : decode c_M_replace 13 = .ok (.aload_n 0, 1) := by decide +kernel
theorem d_M_replace_14 : decode c_M_replace 14 = .ok (.getfield 7, 3) := by decide +kernel
theorem d_M_replace_17 : decode c_M_replace 17 = .ok (.iload_n 3, 1) := by decide +kernel
theorem d_M_replace_18 : decode c_M_replace 18 = .ok (.iaload, 1) := by decide +kernel
theorem d_M_replace_19 : decode c_M_replace 19 = .ok (.ifCond .eq 16, 3) := by decide +kernel
theorem d_M_replace_22 : decode c_M_replace 22 = .ok (.aload_n 0, 1) := by decide +kernel
theorem d_M_replace_23 : decode c_M_replace 23 = .ok (.getfield 7, 3) := by decide +kernel
theorem d_M_replace_26 : decode c_M_replace 26 = .ok (.iload_n 3, 1) := by decide +kernel
theorem d_M_replace_27 : decode c_M_replace 27 = .ok (.iaload, 1) := by decide +kernel
theorem d_M_replace_28 : decode c_M_replace 28 = .ok (.iconst 2, 1) := by decide +kernel
theorem d_M_replace_29 : decode c_M_replace 29 = .ok (.if_icmp .eq 6, 3) := by decide +kernel
theorem d_M_replace_32 : decode c_M_replace 32 = .ok (.bipush (-103), 2) := by decide +kernel
theorem d_M_replace_34 : decode c_M_replace 34 = .ok (.ireturn, 1) := by decide +kernel
theorem d_M_replace_35 : decode c_M_replace 35 = .ok (.aload_n 0, 1) := by decide +kernel
theorem d_M_replace_36 : decode c_M_replace 36 = .ok (.getfield 106, 3) := by decide +kernel
theorem d_M_replace_39 : decode c_M_replace 39 = .ok (.sipush 300, 3) := by decide +kernel
theorem d_M_replace_42 : decode c_M_replace 42 = .ok (.if_icmp .ne 6, 3) := by decide +kernel
theorem d_M_replace_45 : decode c_M_replace 45 = .ok (.bipush (-104), 2) := by decide +kernel
theorem d_M_replace_47 : decode c_M_replace 47 = .ok (.ireturn, 1) := by decide +kernel
theorem d_M_replace_48 : decode c_M_replace 48 = .ok (.aload_n 0, 1) := by decide +kernel
theorem d_M_replace_49 : decode c_M_replace 49 = .ok (.getfield 7, 3) := by decide +kernel
theorem d_M_replace_52 : decode c_M_replace 52 = .ok (.iload_n 3, 1) := by decide +kernel
theorem d_M_replace_53 : decode c_M_replace 53 = .ok (.iconst 4, 1) := by decide +kernel
theorem d_M_replace_54 : decode c_M_replace 54 = .ok (.iastore, 1) := by decide +kernel
theorem d_M_replace_55 : decode c_M_replace 55 = .ok (.aload_n 0, 1) := by decide +kernel
theorem d_M_replace_56 : decode c_M_replace 56 = .ok (.getfield 32, 3) := by decide +kernel
theorem d_M_replace_59 : decode c_M_replace 59 = .ok (.iload_n 3, 1) := by decide +kernel
theorem d_M_replace_60 : decode c_M_replace 60 = .ok (.iconst (-1), 1) := by decide +kernel
theorem d_M_replace_61 : decode c_M_replace 61 = .ok (.iastore, 1) := by decide +kernel
theorem d_M_replace_62 : decode c_M_replace 62 = .ok (.aload_n 0, 1) := by decide +kernel
theorem d_M_replace_63 : decode c_M_replace 63 = .ok (.aload_n 0, 1) := by decide +kernel
theorem d_M_replace_64 : decode c_M_replace 64 = .ok (.getfield 26, 3) := by decide +kernel
theorem d_M_replace_67 : decode c_M_replace 67 = .ok (.iload_n 3, 1) := by decide +kernel
theorem d_M_replace_68 : decode c_M_replace 68 = .ok (.iaload, 1) := by decide +kernel
theorem d_M_replace_69 : decode c_M_replace 69 = .ok (.aload_n 0, 1) := by decide +kernel
theorem d_M_replace_70 : decode c_M_replace 70 = .ok (.getfield 13, 3) := by decide +kernel
theorem d_M_replace_73 : decode c_M_replace 73 = .ok (.iload_n 3, 1) := by decide +kernel
theorem d_M_replace_74 : decode c_M_replace 74 = .ok (.laload, 1) := by decide +kernel
theorem d_M_replace_75 : decode c_M_replace 75 = .ok (.aload_n 0, 1) := by decide +kernel
theorem d_M_replace_76 : decode c_M_replace 76 = .ok (.getfield 17, 3) := by decide +kernel
theorem d_M_replace_79 : decode c_M_replace 79 = .ok (.iload_n 3, 1) := by decide +kernel
theorem d_M_replace_80 : decode c_M_replace 80 = .ok (.laload, 1) := by decide +kernel
theorem d_M_replace_81 : decode c_M_replace 81 = .ok (.aload_n 0, 1) := by decide +kernel
theorem d_M_replace_82 : decode c_M_replace 82 = .ok (.getfield 20, 3) := by decide +kernel
theorem d_M_replace_85 : decode c_M_replace 85 = .ok (.iload_n 3, 1) := by decide +kernel
theorem d_M_replace_86 : decode c_M_replace 86 = .ok (.iaload, 1) := by decide +kernel
theorem d_M_replace_87 : decode c_M_replace 87 = .ok (.aload_n 0, 1) := by decide +kernel
theorem d_M_replace_88 : decode c_M_replace 88 = .ok (.getfield 23, 3) := by decide +kernel
theorem d_M_replace_91 : decode c_M_replace 91 = .ok (.iload_n 3, 1) := by decide +kernel
theorem d_M_replace_92 : decode c_M_replace 92 = .ok (.iaload, 1) := by decide +kernel
theorem d_M_replace_93 : decode c_M_replace 93 = .ok (.invokevirtual 122, 3) := by decide +kernel
theorem d_M_replace_96 : decode c_M_replace 96 = .ok (.ireturn, 1) := by decide +kernel
theorem d_M_tick_0 : decode c_M_tick 0 = .ok (.lload_n 1, 1) := by decide +kernel
theorem d_M_tick_1 : decode c_M_tick 1 = .ok (.lconst 0, 1) := by decide +kernel
theorem d_M_tick_2 : decode c_M_tick 2 = .ok (.lcmp, 1) := by decide +kernel
theorem d_M_tick_3 : decode c_M_tick 3 = .ok (.ifCond .ge 6, 3) := by decide +kernel
theorem d_M_tick_6 : decode c_M_tick 6 = .ok (.bipush (-102), 2) := by decide +kernel
theorem d_M_tick_8 : decode c_M_tick 8 = .ok (.ireturn, 1) := by decide +kernel
theorem d_M_tick_9 : decode c_M_tick 9 = .ok (.iconst 0, 1) := by decide +kernel
theorem d_M_tick_10 : decode c_M_tick 10 = .ok (.istore_n 3, 1) := by decide +kernel
theorem d_M_tick_11 : decode c_M_tick 11 = .ok (.iconst 1, 1) := by decide +kernel
theorem d_M_tick_12 : decode c_M_tick 12 = .ok (.istore 4, 2) := by decide +kernel
theorem d_M_tick_14 : decode c_M_tick 14 = .ok (.iload 4, 2) := by decide +kernel
theorem d_M_tick_16 : decode c_M_tick 16 = .ok (.aload_n 0, 1) := by decide +kernel
theorem d_M_tick_17 : decode c_M_tick 17 = .ok (.getfield 106, 3) := by decide +kernel
theorem d_M_tick_20 : decode c_M_tick 20 = .ok (.if_icmp .gt 134, 3) := by decide +kernel
theorem d_M_tick_23 : decode c_M_tick 23 = .ok (.aload_n 0, 1) := by decide +kernel
theorem d_M_tick_24 : decode c_M_tick 24 = .ok (.getfield 7, 3) := by decide +kernel
theorem d_M_tick_27 : decode c_M_tick 27 = .ok (.iload 4, 2) := by decide +kernel
theorem d_M_tick_29 : decode c_M_tick 29 = .ok (.iaload, 1) := by decide +kernel
theorem d_M_tick_30 : decode c_M_tick 30 = .ok (.ifCond .eq 14, 3) := by decide +kernel
theorem d_M_tick_33 : decode c_M_tick 33 = .ok (.aload_n 0, 1) := by decide +kernel
theorem d_M_tick_34 : decode c_M_tick 34 = .ok (.getfield 7, 3) := by decide +kernel
theorem d_M_tick_37 : decode c_M_tick 37 = .ok (.iload 4, 2) := by decide +kernel
theorem d_M_tick_39 : decode c_M_tick 39 = .ok (.iaload, 1) := by decide +kernel
theorem d_M_tick_40 : decode c_M_tick 40 = .ok (.iconst 2, 1) := by decide +kernel
theorem d_M_tick_41 : decode c_M_tick 41 = .ok (.if_icmp .ne 42, 3) := by decide +kernel
theorem d_M_tick_44 : decode c_M_tick 44 = .ok (.aload_n 0, 1) := by decide +kernel
theorem d_M_tick_45 : decode c_M_tick 45 = .ok (.getfield 17, 3) := by decide +kernel
theorem d_M_tick_48 : decode c_M_tick 48 = .ok (.iload 4, 2) := by decide +kernel
theorem d_M_tick_50 : decode c_M_tick 50 = .ok (.laload, 1) := by decide +kernel
theorem d_M_tick_51 : decode c_M_tick 51 = .ok (.lload_n 1, 1) := by decide +kernel
theorem d_M_tick_52 : decode c_M_tick 52 = .ok (.lcmp, 1) := by decide +kernel
theorem d_M_tick_53 : decode c_M_tick 53 = .ok (.ifCond .ge 30, 3) := by decide +kernel
theorem d_M_tick_56 : decode c_M_tick 56 = .ok (.aload_n 0, 1) := by decide +kernel
theorem d_M_tick_57 : decode c_M_tick 57 = .ok (.getfield 47, 3) := by decide +kernel
theorem d_M_tick_60 : decode c_M_tick 60 = .ok (.aload_n 0, 1) := by decide +kernel
theorem d_M_tick_61 : decode c_M_tick 61 = .ok (.getfield 26, 3) := by decide +kernel
theorem d_M_tick_64 : decode c_M_tick 64 = .ok (.iload 4, 2) := by decide +kernel
theorem d_M_tick_66 : decode c_M_tick 66 = .ok (.iaload, 1) := by decide +kernel
theorem d_M_tick_67 : decode c_M_tick 67 = .ok (.laload, 1) := by decide +kernel
theorem d_M_tick_68 : decode c_M_tick 68 = .ok (.aload_n 0, 1) := by decide +kernel
theorem d_M_tick_69 : decode c_M_tick 69 = .ok (.getfield 13, 3) := by decide +kernel
theorem d_M_tick_72 : decode c_M_tick 72 = .ok (.iload 4, 2) := by decide +kernel
theorem d_M_tick_74 : decode c_M_tick 74 = .ok (.laload, 1) := by decide +kernel
theorem d_M_tick_75 : decode c_M_tick 75 = .ok (.lcmp, 1) := by decide +kernel
theorem d_M_tick_76 : decode c_M_tick 76 = .ok (.ifCond .lt 7, 3) := by decide +kernel
theorem d_M_tick_79 : decode c_M_tick 79 = .ok (.iconst 1, 1) := by decide +kernel
theorem d_M_tick_80 : decode c_M_tick 80 = .ok (.goto 4, 3) := by decide +kernel
