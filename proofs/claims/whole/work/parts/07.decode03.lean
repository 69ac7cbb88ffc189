theorem d_Math_floorMod_0 : decode c_Math_floorMod 0 = .ok (.iload_n 0, 1) := by decide +kernel
theorem d_Math_floorMod_1 : decode c_Math_floorMod 1 = .ok (.iload_n 1, 1) := by decide +kernel
theorem d_Math_floorMod_2 : decode c_Math_floorMod 2 = .ok (.irem, 1) := by decide +kernel
theorem d_Math_floorMod_3 : decode c_Math_floorMod 3 = .ok (.istore_n 2, 1) := by decide +kernel
theorem d_Math_floorMod_4 : decode c_Math_floorMod 4 = .ok (.iload_n 0, 1) := by decide +kernel
theorem d_Math_floorMod_5 : decode c_Math_floorMod 5 = .ok (.iload_n 1, 1) := by decide +kernel
theorem d_Math_floorMod_6 : decode c_Math_floorMod 6 = .ok (.ixor, 1) := by decide +kernel
theorem d_Math_floorMod_7 : decode c_Math_floorMod 7 = .ok (.ifCond .ge 11, 3) := by decide +kernel
theorem d_Math_floorMod_10 : decode c_Math_floorMod 10 = .ok (.iload_n 2, 1) := by decide +kernel
theorem d_Math_floorMod_11 : decode c_Math_floorMod 11 = .ok (.ifCond .eq 7, 3) := by decide +kernel
theorem d_Math_floorMod_14 : decode c_Math_floorMod 14 = .ok (.iload_n 2, 1) := by decide +kernel
theorem d_Math_floorMod_15 : decode c_Math_floorMod 15 = .ok (.iload_n 1, 1) := by decide +kernel
theorem d_Math_floorMod_16 : decode c_Math_floorMod 16 = .ok (.iadd, 1) := by decide +kernel
theorem d_Math_floorMod_17 : decode c_Math_floorMod 17 = .ok (.ireturn, 1) := by decide +kernel
theorem d_Math_floorMod_18 : decode c_Math_floorMod 18 = .ok (.iload_n 2, 1) := by decide +kernel
theorem d_Math_floorMod_19 : decode c_Math_floorMod 19 = .ok (.ireturn, 1) := by decide +kernel
theorem d_X_placeOfTry_0 : decode c_X_placeOfTry 0 = .ok (.iload_n 0, 1) := by decide +kernel
theorem d_X_placeOfTry_1 : decode c_X_placeOfTry 1 = .ok (.bipush 100, 2) := by decide +kernel
theorem d_X_placeOfTry_3 : decode c_X_placeOfTry 3 = .ok (.invokestatic 216, 3) := by decide +kernel
theorem d_X_placeOfTry_6 : decode c_X_placeOfTry 6 = .ok (.ireturn, 1) := by decide +kernel
theorem d_Try_init_0 : decode c_Try_init 0 = .ok (.aload_n 0, 1) := by decide +kernel
theorem d_Try_init_1 : decode c_Try_init 1 = .ok (.invokespecial 3, 3) := by decide +kernel
theorem d_Try_init_4 : decode c_Try_init 4 = .ok (.aload_n 0, 1) := by decide +kernel
theorem d_Try_init_5 : decode c_Try_init 5 = .ok (.iconst (-1), 1) := by decide +kernel
theorem d_Try_init_6 : decode c_Try_init 6 = .ok (.putfield 9, 3) := by decide +kernel
theorem d_Try_init_9 : decode c_Try_init 9 = .ok (.aload_n 0, 1) := by decide +kernel
theorem d_Try_init_10 : decode c_Try_init 10 = .ok (.iload_n 1, 1) := by decide +kernel
theorem d_Try_init_11 : decode c_Try_init 11 = .ok (.putfield 15, 3) := by decide +kernel
theorem d_Try_init_14 : decode c_Try_init 14 = .ok (.aload_n 0, 1) := by decide +kernel
theorem d_Try_init_15 : decode c_Try_init 15 = .ok (.lload_n 2, 1) := by decide +kernel
theorem d_Try_init_16 : decode c_Try_init 16 = .ok (.putfield 18, 3) := by decide +kernel
theorem d_Try_init_19 : decode c_Try_init 19 = .ok (.aload_n 0, 1) := by decide +kernel
theorem d_Try_init_20 : decode c_Try_init 20 = .ok (.iload 4, 2) := by decide +kernel
theorem d_Try_init_22 : decode c_Try_init 22 = .ok (.putfield 22, 3) := by decide +kernel
theorem d_Try_init_25 : decode c_Try_init 25 = .ok (.aload_n 0, 1) := by decide +kernel
theorem d_Try_init_26 : decode c_Try_init 26 = .ok (.lload 5, 2) := by decide +kernel
theorem d_Try_init_28 : decode c_Try_init 28 = .ok (.putfield 25, 3) := by decide +kernel
theorem d_Try_init_31 : decode c_Try_init 31 = .ok (.return_, 1) := by decide +kernel
theorem d_X_ask_0 : decode c_X_ask 0 = .ok (.aload_n 0, 1) := by decide +kernel
theorem d_X_ask_1 : decode c_X_ask 1 = .ok (.iload_n 1, 1) := by decide +kernel
theorem d_X_ask_2 : decode c_X_ask 2 = .ok (.invokevirtual 47, 3) := by decide +kernel
theorem d_X_ask_5 : decode c_X_ask 5 = .ok (.ifnull 10, 3) := by decide +kernel
theorem d_X_ask_8 : decode c_X_ask 8 = .ok (.lload 5, 2) := by decide +kernel
theorem d_X_ask_10 : decode c_X_ask 10 = .ok (.lconst 0, 1) := by decide +kernel
theorem d_X_ask_11 : decode c_X_ask 11 = .ok (.lcmp, 1) := by decide +kernel
theorem d_X_ask_12 : decode c_X_ask 12 = .ok (.ifCond .ge 6, 3) := by decide +kernel
theorem d_X_ask_15 : decode c_X_ask 15 = .ok (.bipush (-102), 2) := by decide +kernel
theorem d_X_ask_17 : decode c_X_ask 17 = .ok (.ireturn, 1) := by decide +kernel
theorem d_X_ask_18 : decode c_X_ask 18 = .ok (.aload_n 0, 1) := by decide +kernel
theorem d_X_ask_19 : decode c_X_ask 19 = .ok (.getfield 95, 3) := by decide +kernel
theorem d_X_ask_22 : decode c_X_ask 22 = .ok (.aload_n 0, 1) := by decide +kernel
theorem d_X_ask_23 : decode c_X_ask 23 = .ok (.getfield 98, 3) := by decide +kernel
theorem d_X_ask_26 : decode c_X_ask 26 = .ok (.isub, 1) := by decide +kernel
theorem d_X_ask_27 : decode c_X_ask 27 = .ok (.bipush 20, 2) := by decide +kernel
theorem d_X_ask_29 : decode c_X_ask 29 = .ok (.if_icmp .lt 6, 3) := by decide +kernel
theorem d_X_ask_32 : decode c_X_ask 32 = .ok (.bipush (-104), 2) := by decide +kernel
theorem d_X_ask_34 : decode c_X_ask 34 = .ok (.ireturn, 1) := by decide +kernel
theorem d_X_ask_35 : decode c_X_ask 35 = .ok (.aload_n 0, 1) := by decide +kernel
theorem d_X_ask_36 : decode c_X_ask 36 = .ok (.getfield 29, 3) := by decide +kernel
theorem d_X_ask_39 : decode c_X_ask 39 = .ok (.aload_n 0, 1) := by decide +kernel
theorem d_X_ask_40 : decode c_X_ask 40 = .ok (.getfield 95, 3) := by decide +kernel
theorem d_X_ask_43 : decode c_X_ask 43 = .ok (.invokestatic 101, 3) := by decide +kernel
theorem d_X_ask_46 : decode c_X_ask 46 = .ok (.new 27, 3) := by decide +kernel
theorem d_X_ask_49 : decode c_X_ask 49 = .ok (.dup, 1) := by decide +kernel
theorem d_X_ask_50 : decode c_X_ask 50 = .ok (.iload_n 1, 1) := by decide +kernel
theorem d_X_ask_51 : decode c_X_ask 51 = .ok (.lload_n 2, 1) := by decide +kernel
theorem d_X_ask_52 : decode c_X_ask 52 = .ok (.iload 4, 2) := by decide +kernel
theorem d_X_ask_54 : decode c_X_ask 54 = .ok (.lload 5, 2) := by decide +kernel
theorem d_X_ask_56 : decode c_X_ask 56 = .ok (.invokespecial 105, 3) := by decide +kernel
theorem d_X_ask_59 : decode c_X_ask 59 = .ok (.aastore, 1) := by decide +kernel
theorem d_X_ask_60 : decode c_X_ask 60 = .ok (.aload_n 0, 1) := by decide +kernel
theorem d_X_ask_61 : decode c_X_ask 61 = .ok (.dup, 1) := by decide +kernel
theorem d_X_ask_62 : decode c_X_ask 62 = .ok (.getfield 95, 3) := by decide +kernel
theorem d_X_ask_65 : decode c_X_ask 65 = .ok (.dup_x1, 1) := by decide +kernel
theorem d_X_ask_66 : decode c_X_ask 66 = .ok (.iconst 1, 1) := by decide +kernel
theorem d_X_ask_67 : decode c_X_ask 67 = .ok (.iadd, 1) := by decide +kernel
theorem d_X_ask_68 : decode c_X_ask 68 = .ok (.putfield 95, 3) := by decide +kernel
theorem d_X_ask_71 : decode c_X_ask 71 = .ok (.ireturn, 1) := by decide +kernel
theorem d_X_serve_0 : decode c_X_serve 0 = .ok (.iload_n 1, 1) := by decide +kernel
theorem d_X_serve_1 : decode c_X_serve 1 = .ok (.ifCond .ge 6, 3) := by decide +kernel
theorem d_X_serve_4 : decode c_X_serve 4 = .ok (.bipush (-102), 2) := by decide +kernel
theorem d_X_serve_6 : decode c_X_serve 6 = .ok (.ireturn, 1) := by decide +kernel
theorem d_X_serve_7 : decode c_X_serve 7 = .ok (.iload_n 1, 1) := by decide +kernel
theorem d_X_serve_8 : decode c_X_serve 8 = .ok (.aload_n 0, 1) := by decide +kernel
theorem d_X_serve_9 : decode c_X_serve 9 = .ok (.getfield 95, 3) := by decide +kernel
theorem d_X_serve_12 : decode c_X_serve 12 = .ok (.aload_n 0, 1) := by decide +kernel
theorem d_X_serve_13 : decode c_X_serve 13 = .ok (.getfield 98, 3) := by decide +kernel
theorem d_X_serve_16 : decode c_X_serve 16 = .ok (.isub, 1) := by decide +kernel
theorem d_X_serve_17 : decode c_X_serve 17 = .ok (.invokestatic 108, 3) := by decide +kernel
theorem d_X_serve_20 : decode c_X_serve 20 = .ok (.istore_n 2, 1) := by decide +kernel
theorem d_X_serve_21 : decode c_X_serve 21 = .ok (.iconst 0, 1) := by decide +kernel
theorem d_X_serve_22 : decode c_X_serve 22 = .ok (.istore_n 3, 1) := by decide +kernel
theorem d_X_serve_23 : decode c_X_serve 23 = .ok (.iload_n 3, 1) := by decide +kernel
theorem d_X_serve_24 : decode c_X_serve 24 = .ok (.iload_n 2, 1) := by decide +kernel
theorem d_X_serve_25 : decode c_X_serve 25 = .ok (.if_icmp .ge 67, 3) := by decide +kernel
theorem d_X_serve_28 : decode c_X_serve 28 = .ok (.aload_n 0, 1) := by decide +kernel
theorem d_X_serve_29 : decode c_X_serve 29 = .ok (.getfield 29, 3) := by decide +kernel
theorem d_X_serve_32 : decode c_X_serve 32 = .ok (.aload_n 0, 1) := by decide +kernel
theorem d_X_serve_33 : decode c_X_serve 33 = .ok (.getfield 98, 3) := by decide +kernel
theorem d_X_serve_36 : decode c_X_serve 36 = .ok (.invokestatic 101, 3) := by decide +kernel
theorem d_X_serve_39 : decode c_X_serve 39 = .ok (.aaload, 1) := by decide +kernel
theorem d_X_serve_40 : decode c_X_serve 40 = .ok (.astore 4, 2) := by decide +kernel
theorem d_X_serve_42 : decode c_X_serve 42 = .ok (.aload_n 0, 1) := by decide +kernel
theorem d_X_serve_43 : decode c_X_serve 43 = .ok (.dup, 1) := by decide +kernel
theorem d_X_serve_44 : decode c_X_serve 44 = .ok (.getfield 98, 3) := by decide +kernel
theorem d_X_serve_47 : decode c_X_serve 47 = .ok (.iconst 1, 1) := by decide +kernel
theorem d_X_serve_48 : decode c_X_serve 48 = .ok (.iadd, 1) := by decide +kernel
theorem d_X_serve_49 : decode c_X_serve 49 = .ok (.putfield 98, 3) := by decide +kernel
theorem d_X_serve_52 : decode c_X_serve 52 = .ok (.aload 4, 2) := by decide +kernel
theorem d_X_serve_54 : decode c_X_serve 54 = .ok (.ifnull 32, 3) := by decide +kernel
theorem d_X_serve_57 : decode c_X_serve 57 = .ok (.aload 4, 2) := by decide +kernel
theorem d_X_serve_59 : decode c_X_serve 59 = .ok (.aload_n 0, 1) := by decide +kernel
theorem d_X_serve_60 : decode c_X_serve 60 = .ok (.aload 4, 2) := by decide +kernel
theorem d_X_serve_62 : decode c_X_serve 62 = .ok (.getfield 114, 3) := by decide +kernel
theorem d_X_serve_65 : decode c_X_serve 65 = .ok (.aload 4, 2) := by decide +kernel
theorem d_X_serve_67 : decode c_X_serve 67 = .ok (.getfield 117, 3) := by decide +kernel
theorem d_X_serve_70 : decode c_X_serve 70 = .ok (.aload 4, 2) := by decide +kernel
theorem d_X_serve_72 : decode c_X_serve 72 = .ok (.getfield 120, 3) := by decide +kernel
theorem d_X_serve_75 : decode c_X_serve 75 = .ok (.aload 4, 2) := by decide +kernel
theorem d_X_serve_77 : decode c_X_serve 77 = .ok (.getfield 123, 3) := by decide +kernel
theorem d_X_serve_80 : decode c_X_serve 80 = .ok (.invokevirtual 126, 3) := by decide +kernel
theorem d_X_serve_83 : decode c_X_serve 83 = .ok (.putfield 130, 3) := by decide +kernel
theorem d_X_serve_86 : decode c_X_serve 86 = .ok (.iinc 3 1, 3) := by decide +kernel
theorem d_X_serve_89 : decode c_X_serve 89 = .ok (.goto (-66), 3) := by decide +kernel
theorem d_X_serve_92 : decode c_X_serve 92 = .ok (.iload_n 2, 1) := by decide +kernel
theorem d_X_serve_93 : decode c_X_serve 93 = .ok (.ireturn, 1) := by decide +kernel
theorem d_X_answer_0 : decode c_X_answer 0 = .ok (.iload_n 1, 1) := by decide +kernel
theorem d_X_answer_1 : decode c_X_answer 1 = .ok (.ifCond .lt 22, 3) := by decide +kernel
theorem d_X_answer_4 : decode c_X_answer 4 = .ok (.iload_n 1, 1) := by decide +kernel
theorem d_X_answer_5 : decode c_X_answer 5 = .ok (.aload_n 0, 1) := by decide +kernel
theorem d_X_answer_6 : decode c_X_answer 6 = .ok (.getfield 95, 3) := by decide +kernel
theorem d_X_answer_9 : decode c_X_answer 9 = .ok (.if_icmp .ge 14, 3) := by decide +kernel
theorem d_X_answer_12 : decode c_X_answer 12 = .ok (.iload_n 1, 1) := by decide +kernel
theorem d_X_answer_13 : decode c_X_answer 13 = .ok (.aload_n 0, 1) := by decide +kernel
theorem d_X_answer_14 : decode c_X_answer 14 = .ok (.getfield 95, 3) := by decide +kernel
theorem d_X_answer_17 : decode c_X_answer 17 = .ok (.bipush 100, 2) := by decide +kernel
theorem d_X_answer_19 : decode c_X_answer 19 = .ok (.isub, 1) := by decide +kernel
theorem d_X_answer_20 : decode c_X_answer 20 = .ok (.if_icmp .ge 5, 3) := by decide +kernel
theorem d_X_answer_23 : decode c_X_answer 23 = .ok (.iconst (-1), 1) := by decide +kernel
theorem d_X_answer_24 : decode c_X_answer 24 = .ok (.ireturn, 1) := by decide +kernel
theorem d_X_answer_25 : decode c_X_answer 25 = .ok (.aload_n 0, 1) := by decide +kernel
theorem d_X_answer_26 : decode c_X_answer 26 = .ok (.getfield 29, 3) := by decide +kernel
theorem d_X_answer_29 : decode c_X_answer 29 = .ok (.iload_n 1, 1) := by decide +kernel
theorem d_X_answer_30 : decode c_X_answer 30 = .ok (.invokestatic 101, 3) := by decide +kernel
theorem d_X_answer_33 : decode c_X_answer 33 = .ok (.aaload, 1) := by decide +kernel
theorem d_X_answer_34 : decode c_X_answer 34 = .ok (.astore_n 2, 1) := by decide +kernel
theorem d_X_answer_35 : decode c_X_answer 35 = .ok (.aload_n 2, 1) := by decide +kernel
theorem d_X_answer_36 : decode c_X_answer 36 = .ok (.ifnonnull 7, 3) := by decide +kernel
theorem d_X_answer_39 : decode c_X_answer 39 = .ok (.iconst (-1), 1) := by decide +kernel
theorem d_X_answer_40 : decode c_X_answer 40 = .ok (.goto 7, 3) := by decide +kernel
theorem d_X_answer_43 : decode c_X_answer 43 = .ok (.aload_n 2, 1) := by decide +kernel
theorem d_X_answer_44 : decode c_X_answer 44 = .ok (.getfield 130, 3) := by decide +kernel
theorem d_X_answer_47 : decode c_X_answer 47 = .ok (.ireturn, 1) := by decide +kernel
theorem d_X_bar_0 : decode c_X_bar 0 = .ok (.aload_n 0, 1) := by decide +kernel
theorem d_X_bar_1 : decode c_X_bar 1 = .ok (.lload_n 1, 1) := by decide +kernel
theorem d_X_bar_2 : decode c_X_bar 2 = .ok (.invokevirtual 71, 3) := by decide +kernel
theorem d_X_bar_5 : decode c_X_bar 5 = .ok (.astore 5, 2) := by decide +kernel
theorem d_X_bar_7 : decode c_X_bar 7 = .ok (.aload 5, 2) := by decide +kernel
theorem d_X_bar_9 : decode c_X_bar 9 = .ok (.ifnonnull 6, 3) := by decide +kernel
theorem d_X_bar_12 : decode c_X_bar 12 = .ok (.bipush (-101), 2) := by decide +kernel
theorem d_X_bar_14 : decode c_X_bar 14 = .ok (.ireturn, 1) := by decide +kernel
theorem d_X_bar_15 : decode c_X_bar 15 = .ok (.lload_n 3, 1) := by decide +kernel
theorem d_X_bar_16 : decode c_X_bar 16 = .ok (.lconst 0, 1) := by decide +kernel
theorem d_X_bar_17 : decode c_X_bar 17 = .ok (.lcmp, 1) := by decide +kernel
theorem d_X_bar_18 : decode c_X_bar 18 = .ok (.ifCond .ge 6, 3) := by decide +kernel
theorem d_X_bar_21 : decode c_X_bar 21 = .ok (.bipush (-102), 2) := by decide +kernel
theorem d_X_bar_23 : decode c_X_bar 23 = .ok (.ireturn, 1) := by decide +kernel
theorem d_X_bar_24 : decode c_X_bar 24 = .ok (.aload 5, 2) := by decide +kernel
theorem d_X_bar_26 : decode c_X_bar 26 = .ok (.getfield 75, 3) := by decide +kernel
theorem d_X_bar_29 : decode c_X_bar 29 = .ok (.ifCond .eq 6, 3) := by decide +kernel
theorem d_X_bar_32 : decode c_X_bar 32 = .ok (.bipush (-103), 2) := by decide +kernel
theorem d_X_bar_34 : decode c_X_bar 34 = .ok (.ireturn, 1) := by decide +kernel
theorem d_X_bar_35 : decode c_X_bar 35 = .ok (.aload 5, 2) := by decide +kernel
theorem d_X_bar_37 : decode c_X_bar 37 = .ok (.lload_n 3, 1) := by decide +kernel
theorem d_X_bar_38 : decode c_X_bar 38 = .ok (.putfield 133, 3) := by decide +kernel
theorem d_X_bar_41 : decode c_X_bar 41 = .ok (.aload 5, 2) := by decide +kernel
theorem d_X_bar_43 : decode c_X_bar 43 = .ok (.iconst 2, 1) := by decide +kernel
theorem d_X_bar_44 : decode c_X_bar 44 = .ok (.invokevirtual 136, 3) := by decide +kernel
theorem d_X_bar_47 : decode c_X_bar 47 = .ok (.iconst 1, 1) := by decide +kernel
theorem d_X_bar_48 : decode c_X_bar 48 = .ok (.ireturn, 1) := by decide +kernel
theorem d_X_since_0 : decode c_X_since 0 = .ok (.aload_n 0, 1) := by decide +kernel
theorem d_X_since_1 : decode c_X_since 1 = .ok (.lload_n 1, 1) := by decide +kernel
theorem d_X_since_2 : decode c_X_since 2 = .ok (.invokevirtual 71, 3) := by decide +kernel
theorem d_X_since_5 : decode c_X_since 5 = .ok (.astore_n 3, 1) := by decide +kernel
theorem d_X_since_6 : decode c_X_since 6 = .ok (.aload_n 3, 1) := by decide +kernel
theorem d_X_since_7 : decode c_X_since 7 = .ok (.ifnonnull 9, 3) := by decide +kernel
theorem d_X_since_10 : decode c_X_since 10 = .ok (.ldc2_w 139, 3) := by decide +kernel
theorem d_X_since_13 : decode c_X_since 13 = .ok (.goto 7, 3) := by decide +kernel
theorem d_X_since_16 : decode c_X_since 16 = .ok (.aload_n 3, 1) := by decide +kernel
theorem d_X_since_17 : decode c_X_since 17 = .ok (.getfield 133, 3) := by decide +kernel
theorem d_X_since_20 : decode c_X_since 20 = .ok (.lreturn, 1) := by decide +kernel
theorem d_Order_isUnpaid_0 : decode c_Order_isUnpaid 0 = .ok (.aload_n 0, 1) := by decide +kernel
theorem d_Order_isUnpaid_1 : decode c_Order_isUnpaid 1 = .ok (.getfield 9, 3) := by decide +kernel
theorem d_Order_isUnpaid_4 : decode c_Order_isUnpaid 4 = .ok (.ifCond .eq 11, 3) := by decide +kernel
theorem d_Order_isUnpaid_7 : decode c_Order_isUnpaid 7 = .ok (.aload_n 0, 1) := by decide +kernel
theorem d_Order_isUnpaid_8 : decode c_Order_isUnpaid 8 = .ok (.getfield 9, 3) := by decide +kernel
theorem d_Order_isUnpaid_11 : decode c_Order_isUnpaid 11 = .ok (.iconst 2, 1) := by decide +kernel
theorem d_Order_isUnpaid_12 : decode c_Order_isUnpaid 12 = .ok (.if_icmp .ne 7, 3) := by decide +kernel
theorem d_Order_isUnpaid_15 : decode c_Order_isUnpaid 15 = .ok (.iconst 1, 1) := by decide +kernel
theorem d_Order_isUnpaid_16 : decode c_Order_isUnpaid 16 = .ok (.goto 4, 3) := by decide +kernel
theorem d_Order_isUnpaid_19 : decode c_Order_isUnpaid 19 = .ok (.iconst 0, 1) := by decide +kernel
theorem d_Order_isUnpaid_20 : decode c_Order_isUnpaid 20 = .ok (.ireturn, 1) := by decide +kernel
theorem d_X_replace_0 : decode c_X_replace 0 = .ok (.aload_n 0, 1) := by decide +kernel
theorem d_X_replace_1 : decode c_X_replace 1 = .ok (.lload_n 1, 1) := by decide +kernel
theorem d_X_replace_2 : decode c_X_replace 2 = .ok (.invokevirtual 71, 3) := by decide +kernel
theorem d_X_replace_5 : decode c_X_replace 5 = .ok (.astore_n 3, 1) := by decide +kernel
theorem d_X_replace_6 : decode c_X_replace 6 = .ok (.aload_n 3, 1) := by decide +kernel
theorem d_X_replace_7 : decode c_X_replace 7 = .ok (.ifnonnull 6, 3) := by decide +kernel
theorem d_X_replace_10 : decode c_X_replace 10 = .ok (.bipush (-101), 2) := by decide +kernel
theorem d_X_replace_12 : decode c_X_replace 12 = .ok (.ireturn, 1) := by decide +kernel
theorem d_X_replace_13 : decode c_X_replace 13 = .ok (.aload_n 3, 1) := by decide +kernel
theorem d_X_replace_14 : decode c_X_replace 14 = .ok (.invokevirtual 141, 3) := by decide +kernel
theorem d_X_replace_17 : decode c_X_replace 17 = .ok (.ifCond .ne 6, 3) := by decide +kernel
theorem d_X_replace_20 : decode c_X_replace 20 = .ok (.bipush (-103), 2) := by decide +kernel
theorem d_X_replace_22 : decode c_X_replace 22 = .ok (.ireturn, 1) := by decide +kernel
theorem d_X_replace_23 : decode c_X_replace 23 = .ok (.aload_n 0, 1) := by decide +kernel
theorem d_X_replace_24 : decode c_X_replace 24 = .ok (.getfield 59, 3) := by decide +kernel
theorem d_X_replace_27 : decode c_X_replace 27 = .ok (.sipush 300, 3) := by decide +kernel
theorem d_X_replace_30 : decode c_X_replace 30 = .ok (.if_icmp .lt 6, 3) := by decide +kernel
theorem d_X_replace_33 : decode c_X_replace 33 = .ok (.bipush (-104), 2) := by decide +kernel
theorem d_X_replace_35 : decode c_X_replace 35 = .ok (.ireturn, 1) := by decide +kernel
theorem d_X_replace_36 : decode c_X_replace 36 = .ok (.aload_n 3, 1) := by decide +kernel
theorem d_X_replace_37 : decode c_X_replace 37 = .ok (.iconst 4, 1) := by decide +kernel
theorem d_X_replace_38 : decode c_X_replace 38 = .ok (.invokevirtual 136, 3) := by decide +kernel
theorem d_X_replace_41 : decode c_X_replace 41 = .ok (.aload_n 0, 1) := by decide +kernel
theorem d_X_replace_42 : decode c_X_replace 42 = .ok (.aload_n 3, 1) := by decide +kernel
theorem d_X_replace_43 : decode c_X_replace 43 = .ok (.getfield 145, 3) := by decide +kernel
theorem d_X_replace_46 : decode c_X_replace 46 = .ok (.aload_n 3, 1) := by decide +kernel
theorem d_X_replace_47 : decode c_X_replace 47 = .ok (.getfield 149, 3) := by decide +kernel
theorem d_X_replace_50 : decode c_X_replace 50 = .ok (.aload_n 3, 1) := by decide +kernel
theorem d_X_replace_51 : decode c_X_replace 51 = .ok (.getfield 78, 3) := by decide +kernel
theorem d_X_replace_54 : decode c_X_replace 54 = .ok (.aload_n 3, 1) := by decide +kernel
theorem d_X_replace_55 : decode c_X_replace 55 = .ok (.getfield 152, 3) := by decide +kernel
theorem d_X_replace_58 : decode c_X_replace 58 = .ok (.aload_n 3, 1) := by decide +kernel
theorem d_X_replace_59 : decode c_X_replace 59 = .ok (.getfield 156, 3) := by decide +kernel
theorem d_X_replace_62 : decode c_X_replace 62 = .ok (.invokevirtual 67, 3) := by decide +kernel
theorem d_X_replace_65 : decode c_X_replace 65 = .ok (.ireturn, 1) := by decide +kernel
theorem d_X_emptyListOf_0 : decode c_X_emptyListOf 0 = .ok (.iconst 0, 1) := by decide +kernel
theorem d_X_emptyListOf_1 : decode c_X_emptyListOf 1 = .ok (.istore_n 2, 1) := by decide +kernel
theorem d_X_emptyListOf_2 : decode c_X_emptyListOf 2 = .ok (.iload_n 2, 1) := by decide +kernel
theorem d_X_emptyListOf_3 : decode c_X_emptyListOf 3 = .ok (.aload_n 0, 1) := by decide +kernel
theorem d_X_emptyListOf_4 : decode c_X_emptyListOf 4 = .ok (.getfield 59, 3) := by decide +kernel
theorem d_X_emptyListOf_7 : decode c_X_emptyListOf 7 = .ok (.if_icmp .ge 32, 3) := by decide +kernel
theorem d_X_emptyListOf_10 : decode c_X_emptyListOf 10 = .ok (.aload_n 0, 1) := by decide +kernel
theorem d_X_emptyListOf_11 : decode c_X_emptyListOf 11 = .ok (.getfield 23, 3) := by decide +kernel
theorem d_X_emptyListOf_14 : decode c_X_emptyListOf 14 = .ok (.iload_n 2, 1) := by decide +kernel
theorem d_X_emptyListOf_15 : decode c_X_emptyListOf 15 = .ok (.aaload, 1) := by decide +kernel
theorem d_X_emptyListOf_16 : decode c_X_emptyListOf 16 = .ok (.astore_n 3, 1) := by decide +kernel
theorem d_X_emptyListOf_17 : decode c_X_emptyListOf 17 = .ok (.aload_n 3, 1) := by decide +kernel
theorem d_X_emptyListOf_18 : decode c_X_emptyListOf 18 = .ok (.ifnull 15, 3) := by decide +kernel
theorem d_X_emptyListOf_21 : decode c_X_emptyListOf 21 = .ok (.aload_n 3, 1) := by decide +kernel
theorem d_X_emptyListOf_22 : decode c_X_emptyListOf 22 = .ok (.getfield 165, 3) := by decide +kernel
theorem d_X_emptyListOf_25 : decode c_X_emptyListOf 25 = .ok (.aload_n 1, 1) := by decide +kernel
theorem d_X_emptyListOf_26 : decode c_X_emptyListOf 26 = .ok (.if_acmp .ne 7, 3) := by decide +kernel
theorem d_X_emptyListOf_29 : decode c_X_emptyListOf 29 = .ok (.aload_n 3, 1) := by decide +kernel
theorem d_X_emptyListOf_30 : decode c_X_emptyListOf 30 = .ok (.invokevirtual 260, 3) := by decide +kernel
theorem d_X_emptyListOf_33 : decode c_X_emptyListOf 33 = .ok (.iinc 2 1, 3) := by decide +kernel
theorem d_X_emptyListOf_36 : decode c_X_emptyListOf 36 = .ok (.goto (-34), 3) := by decide +kernel
theorem d_X_emptyListOf_39 : decode c_X_emptyListOf 39 = .ok (.return_, 1) := by decide +kernel
theorem d_X_cut_0 : decode c_X_cut 0 = .ok (.aload_n 0, 1) := by decide +kernel
theorem d_X_cut_1 : decode c_X_cut 1 = .ok (.iload_n 1, 1) := by decide +kernel
theorem d_X_cut_2 : decode c_X_cut 2 = .ok (.invokevirtual 47, 3) := by decide +kernel
theorem d_X_cut_5 : decode c_X_cut 5 = .ok (.astore_n 3, 1) := by decide +kernel
theorem d_X_cut_6 : decode c_X_cut 6 = .ok (.aload_n 3, 1) := by decide +kernel
theorem d_X_cut_7 : decode c_X_cut 7 = .ok (.ifnonnull 6, 3) := by decide +kernel
theorem d_X_cut_10 : decode c_X_cut 10 = .ok (.bipush (-102), 2) := by decide +kernel
theorem d_X_cut_12 : decode c_X_cut 12 = .ok (.ireturn, 1) := by decide +kernel
theorem d_X_cut_13 : decode c_X_cut 13 = .ok (.aload_n 3, 1) := by decide +kernel
theorem d_X_cut_14 : decode c_X_cut 14 = .ok (.getfield 157, 3) := by decide +kernel
theorem d_X_cut_17 : decode c_X_cut 17 = .ok (.iload_n 2, 1) := by decide +kernel
theorem d_X_cut_18 : decode c_X_cut 18 = .ok (.if_icmp .ne 5, 3) := by decide +kernel
theorem d_X_cut_21 : decode c_X_cut 21 = .ok (.iconst 0, 1) := by decide +kernel
theorem d_X_cut_22 : decode c_X_cut 22 = .ok (.ireturn, 1) := by decide +kernel
theorem d_X_cut_23 : decode c_X_cut 23 = .ok (.aload_n 3, 1) := by decide +kernel
theorem d_X_cut_24 : decode c_X_cut 24 = .ok (.iload_n 2, 1) := by decide +kernel
theorem d_X_cut_25 : decode c_X_cut 25 = .ok (.putfield 157, 3) := by decide +kernel
theorem d_X_cut_28 : decode c_X_cut 28 = .ok (.iload_n 2, 1) := by decide +kernel
theorem d_X_cut_29 : decode c_X_cut 29 = .ok (.ifCond .ne 8, 3) := by decide +kernel
theorem d_X_cut_32 : decode c_X_cut 32 = .ok (.aload_n 0, 1) := by decide +kernel
theorem d_X_cut_33 : decode c_X_cut 33 = .ok (.aload_n 3, 1) := by decide +kernel
theorem d_X_cut_34 : decode c_X_cut 34 = .ok (.invokevirtual 161, 3) := by decide +kernel
theorem d_X_cut_37 : decode c_X_cut 37 = .ok (.iconst 1, 1) := by decide +kernel
theorem d_X_cut_38 : decode c_X_cut 38 = .ok (.ireturn, 1) := by decide +kernel
theorem d_X_list_0 : decode c_X_list 0 = .ok (.aload_n 0, 1) := by decide +kernel
theorem d_X_list_1 : decode c_X_list 1 = .ok (.lload_n 2, 1) := by decide +kernel
theorem d_X_list_2 : decode c_X_list 2 = .ok (.invokevirtual 71, 3) := by decide +kernel
theorem d_X_list_5 : decode c_X_list 5 = .ok (.astore 4, 2) := by decide +kernel
theorem d_X_list_7 : decode c_X_list 7 = .ok (.aload 4, 2) := by decide +kernel
theorem d_X_list_9 : decode c_X_list 9 = .ok (.ifnonnull 6, 3) := by decide +kernel
theorem d_X_list_12 : decode c_X_list 12 = .ok (.bipush (-101), 2) := by decide +kernel
theorem d_X_list_14 : decode c_X_list 14 = .ok (.ireturn, 1) := by decide +kernel
theorem d_X_list_15 : decode c_X_list 15 = .ok (.aload_n 0, 1) := by decide +kernel
theorem d_X_list_16 : decode c_X_list 16 = .ok (.iload_n 1, 1) := by decide +kernel
theorem d_X_list_17 : decode c_X_list 17 = .ok (.invokevirtual 47, 3) := by decide +kernel
theorem d_X_list_20 : decode c_X_list 20 = .ok (.astore 5, 2) := by decide +kernel
theorem d_X_list_22 : decode c_X_list 22 = .ok (.aload 5, 2) := by decide +kernel
theorem d_X_list_24 : decode c_X_list 24 = .ok (.ifnonnull 6, 3) := by decide +kernel
theorem d_X_list_27 : decode c_X_list 27 = .ok (.bipush (-102), 2) := by decide +kernel
theorem d_X_list_29 : decode c_X_list 29 = .ok (.ireturn, 1) := by decide +kernel
theorem d_X_list_30 : decode c_X_list 30 = .ok (.aload 4, 2) := by decide +kernel
theorem d_X_list_32 : decode c_X_list 32 = .ok (.getfield 75, 3) := by decide +kernel
theorem d_X_list_35 : decode c_X_list 35 = .ok (.ifCond .ne 19, 3) := by decide +kernel
theorem d_X_list_38 : decode c_X_list 38 = .ok (.aload 4, 2) := by decide +kernel
theorem d_X_list_40 : decode c_X_list 40 = .ok (.getfield 165, 3) := by decide +kernel
theorem d_X_list_43 : decode c_X_list 43 = .ok (.ifnonnull 11, 3) := by decide +kernel
theorem d_X_list_46 : decode c_X_list 46 = .ok (.aload 5, 2) := by decide +kernel
theorem d_X_list_48 : decode c_X_list 48 = .ok (.getfield 157, 3) := by decide +kernel
theorem d_X_list_51 : decode c_X_list 51 = .ok (.ifCond .eq 6, 3) := by decide +kernel
theorem d_X_list_54 : decode c_X_list 54 = .ok (.bipush (-103), 2) := by decide +kernel
theorem d_X_list_56 : decode c_X_list 56 = .ok (.ireturn, 1) := by decide +kernel
theorem d_X_list_57 : decode c_X_list 57 = .ok (.aload 5, 2) := by decide +kernel
theorem d_X_list_59 : decode c_X_list 59 = .ok (.getfield 168, 3) := by decide +kernel
theorem d_X_list_62 : decode c_X_list 62 = .ok (.bipush 8, 2) := by decide +kernel
theorem d_X_list_64 : decode c_X_list 64 = .ok (.if_icmp .lt 6, 3) := by decide +kernel
theorem d_X_list_67 : decode c_X_list 67 = .ok (.bipush (-104), 2) := by decide +kernel
theorem d_X_list_69 : decode c_X_list 69 = .ok (.ireturn, 1) := by decide +kernel
theorem d_X_list_70 : decode c_X_list 70 = .ok (.aload 4, 2) := by decide +kernel
theorem d_X_list_72 : decode c_X_list 72 = .ok (.aload 5, 2) := by decide +kernel
theorem d_X_list_74 : decode c_X_list 74 = .ok (.putfield 165, 3) := by decide +kernel
theorem d_X_list_77 : decode c_X_list 77 = .ok (.aload 5, 2) := by decide +kernel
theorem d_X_list_79 : decode c_X_list 79 = .ok (.dup, 1) := by decide +kernel
theorem d_X_list_80 : decode c_X_list 80 = .ok (.getfield 168, 3) := by decide +kernel
theorem d_X_list_83 : decode c_X_list 83 = .ok (.iconst 1, 1) := by decide +kernel
theorem d_X_list_84 : decode c_X_list 84 = .ok (.iadd, 1) := by decide +kernel
theorem d_X_list_85 : decode c_X_list 85 = .ok (.putfield 168, 3) := by decide +kernel
theorem d_X_list_88 : decode c_X_list 88 = .ok (.aload 5, 2) := by decide +kernel
theorem d_X_list_90 : decode c_X_list 90 = .ok (.getfield 168, 3) := by decide +kernel
theorem d_X_list_93 : decode c_X_list 93 = .ok (.ireturn, 1) := by decide +kernel
theorem d_X_changeTill_0 : decode c_X_changeTill 0 = .ok (.aload_n 1, 1) := by decide +kernel
theorem d_X_changeTill_1 : decode c_X_changeTill 1 = .ok (.ifnull 19, 3) := by decide +kernel
theorem d_X_changeTill_4 : decode c_X_changeTill 4 = .ok (.lload_n 2, 1) := by decide +kernel
theorem d_X_changeTill_5 : decode c_X_changeTill 5 = .ok (.ldc2_w 263, 3) := by decide +kernel
theorem d_X_changeTill_8 : decode c_X_changeTill 8 = .ok (.lcmp, 1) := by decide +kernel
theorem d_X_changeTill_9 : decode c_X_changeTill 9 = .ok (.ifCond .lt 11, 3) := by decide +kernel
theorem d_X_changeTill_12 : decode c_X_changeTill 12 = .ok (.lload_n 2, 1) := by decide +kernel
theorem d_X_changeTill_13 : decode c_X_changeTill 13 = .ok (.ldc2_w 265, 3) := by decide +kernel
theorem d_X_changeTill_16 : decode c_X_changeTill 16 = .ok (.lcmp, 1) := by decide +kernel
theorem d_X_changeTill_17 : decode c_X_changeTill 17 = .ok (.ifCond .le 6, 3) := by decide +kernel
theorem d_X_changeTill_20 : decode c_X_changeTill 20 = .ok (.bipush (-102), 2) := by decide +kernel
theorem d_X_changeTill_22 : decode c_X_changeTill 22 = .ok (.ireturn, 1) := by decide +kernel
theorem d_X_changeTill_23 : decode c_X_changeTill 23 = .ok (.aload_n 1, 1) := by decide +kernel
theorem d_X_changeTill_24 : decode c_X_changeTill 24 = .ok (.getfield 63, 3) := by decide +kernel
theorem d_X_changeTill_27 : decode c_X_changeTill 27 = .ok (.lload_n 2, 1) := by decide +kernel
theorem d_X_changeTill_28 : decode c_X_changeTill 28 = .ok (.ladd, 1) := by decide +kernel
theorem d_X_changeTill_29 : decode c_X_changeTill 29 = .ok (.lconst 0, 1) := by decide +kernel
theorem d_X_changeTill_30 : decode c_X_changeTill 30 = .ok (.lcmp, 1) := by decide +kernel
theorem d_X_changeTill_31 : decode c_X_changeTill 31 = .ok (.ifCond .ge 6, 3) := by decide +kernel
theorem d_X_changeTill_34 : decode c_X_changeTill 34 = .ok (.bipush (-103), 2) := by decide +kernel
theorem d_X_changeTill_36 : decode c_X_changeTill 36 = .ok (.ireturn, 1) := by decide +kernel
theorem d_X_changeTill_37 : decode c_X_changeTill 37 = .ok (.aload_n 1, 1) := by decide +kernel
