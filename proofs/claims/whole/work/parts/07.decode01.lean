theorem d_Office_init_0 : decode c_Office_init 0 = .ok (.aload_n 0, 1) := by decide +kernel
theorem d_Office_init_1 : decode c_Office_init 1 = .ok (.invokespecial 3, 3) := by decide +kernel
theorem d_Office_init_4 : decode c_Office_init 4 = .ok (.aload_n 0, 1) := by decide +kernel
theorem d_Office_init_5 : decode c_Office_init 5 = .ok (.ldc2_w 9, 3) := by decide +kernel
theorem d_Office_init_8 : decode c_Office_init 8 = .ok (.putfield 11, 3) := by decide +kernel
theorem d_Office_init_11 : decode c_Office_init 11 = .ok (.aload_n 0, 1) := by decide +kernel
theorem d_Office_init_12 : decode c_Office_init 12 = .ok (.ldc2_w 9, 3) := by decide +kernel
theorem d_Office_init_15 : decode c_Office_init 15 = .ok (.putfield 17, 3) := by decide +kernel
theorem d_Office_init_18 : decode c_Office_init 18 = .ok (.aload_n 0, 1) := by decide +kernel
theorem d_Office_init_19 : decode c_Office_init 19 = .ok (.iload_n 1, 1) := by decide +kernel
theorem d_Office_init_20 : decode c_Office_init 20 = .ok (.putfield 20, 3) := by decide +kernel
theorem d_Office_init_23 : decode c_Office_init 23 = .ok (.return_, 1) := by decide +kernel
theorem d_Currency_init_0 : decode c_Currency_init 0 = .ok (.aload_n 0, 1) := by decide +kernel
theorem d_Currency_init_1 : decode c_Currency_init 1 = .ok (.invokespecial 3, 3) := by decide +kernel
theorem d_Currency_init_4 : decode c_Currency_init 4 = .ok (.aload_n 0, 1) := by decide +kernel
theorem d_Currency_init_5 : decode c_Currency_init 5 = .ok (.ldc2_w 9, 3) := by decide +kernel
theorem d_Currency_init_8 : decode c_Currency_init 8 = .ok (.putfield 11, 3) := by decide +kernel
theorem d_Currency_init_11 : decode c_Currency_init 11 = .ok (.return_, 1) := by decide +kernel
theorem d_X_init_0 : decode c_X_init 0 = .ok (.aload_n 0, 1) := by decide +kernel
theorem d_X_init_1 : decode c_X_init 1 = .ok (.invokespecial 1, 3) := by decide +kernel
theorem d_X_init_4 : decode c_X_init 4 = .ok (.aload_n 0, 1) := by decide +kernel
theorem d_X_init_5 : decode c_X_init 5 = .ok (.bipush 8, 2) := by decide +kernel
theorem d_X_init_7 : decode c_X_init 7 = .ok (.anewarray 9, 3) := by decide +kernel
theorem d_X_init_10 : decode c_X_init 10 = .ok (.putfield 11, 3) := by decide +kernel
theorem d_X_init_13 : decode c_X_init 13 = .ok (.aload_n 0, 1) := by decide +kernel
theorem d_X_init_14 : decode c_X_init 14 = .ok (.iconst 4, 1) := by decide +kernel
theorem d_X_init_15 : decode c_X_init 15 = .ok (.anewarray 15, 3) := by decide +kernel
theorem d_X_init_18 : decode c_X_init 18 = .ok (.putfield 17, 3) := by decide +kernel
theorem d_X_init_21 : decode c_X_init 21 = .ok (.aload_n 0, 1) := by decide +kernel
theorem d_X_init_22 : decode c_X_init 22 = .ok (.sipush 300, 3) := by decide +kernel
theorem d_X_init_25 : decode c_X_init 25 = .ok (.anewarray 21, 3) := by decide +kernel
theorem d_X_init_28 : decode c_X_init 28 = .ok (.putfield 23, 3) := by decide +kernel
theorem d_X_init_31 : decode c_X_init 31 = .ok (.aload_n 0, 1) := by decide +kernel
theorem d_X_init_32 : decode c_X_init 32 = .ok (.bipush 100, 2) := by decide +kernel
theorem d_X_init_34 : decode c_X_init 34 = .ok (.anewarray 27, 3) := by decide +kernel
theorem d_X_init_37 : decode c_X_init 37 = .ok (.putfield 29, 3) := by decide +kernel
theorem d_X_init_40 : decode c_X_init 40 = .ok (.aload_n 0, 1) := by decide +kernel
theorem d_X_init_41 : decode c_X_init 41 = .ok (.bipush 100, 2) := by decide +kernel
theorem d_X_init_43 : decode c_X_init 43 = .ok (.anewarray 33, 3) := by decide +kernel
theorem d_X_init_46 : decode c_X_init 46 = .ok (.putfield 35, 3) := by decide +kernel
theorem d_X_init_49 : decode c_X_init 49 = .ok (.aload_n 0, 1) := by decide +kernel
theorem d_X_init_50 : decode c_X_init 50 = .ok (.bipush 9, 2) := by decide +kernel
theorem d_X_init_52 : decode c_X_init 52 = .ok (.newarray .long, 2) := by decide +kernel
theorem d_X_init_54 : decode c_X_init 54 = .ok (.putfield 39, 3) := by decide +kernel
theorem d_X_init_57 : decode c_X_init 57 = .ok (.iconst 0, 1) := by decide +kernel
theorem d_X_init_58 : decode c_X_init 58 = .ok (.istore_n 1, 1) := by decide +kernel
theorem d_X_init_59 : decode c_X_init 59 = .ok (.iload_n 1, 1) := by decide +kernel
theorem d_X_init_60 : decode c_X_init 60 = .ok (.bipush 8, 2) := by decide +kernel
theorem d_X_init_62 : decode c_X_init 62 = .ok (.if_icmp .ge 23, 3) := by decide +kernel
theorem d_X_init_65 : decode c_X_init 65 = .ok (.aload_n 0, 1) := by decide +kernel
theorem d_X_init_66 : decode c_X_init 66 = .ok (.getfield 11, 3) := by decide +kernel
theorem d_X_init_69 : decode c_X_init 69 = .ok (.iload_n 1, 1) := by decide +kernel
theorem d_X_init_70 : decode c_X_init 70 = .ok (.new 9, 3) := by decide +kernel
theorem d_X_init_73 : decode c_X_init 73 = .ok (.dup, 1) := by decide +kernel
theorem d_X_init_74 : decode c_X_init 74 = .ok (.iload_n 1, 1) := by decide +kernel
theorem d_X_init_75 : decode c_X_init 75 = .ok (.invokespecial 43, 3) := by decide +kernel
theorem d_X_init_78 : decode c_X_init 78 = .ok (.aastore, 1) := by decide +kernel
theorem d_X_init_79 : decode c_X_init 79 = .ok (.iinc 1 1, 3) := by decide +kernel
theorem d_X_init_82 : decode c_X_init 82 = .ok (.goto (-23), 3) := by decide +kernel
theorem d_X_init_85 : decode c_X_init 85 = .ok (.iconst 0, 1) := by decide +kernel
theorem d_X_init_86 : decode c_X_init 86 = .ok (.istore_n 1, 1) := by decide +kernel
theorem d_X_init_87 : decode c_X_init 87 = .ok (.iload_n 1, 1) := by decide +kernel
theorem d_X_init_88 : decode c_X_init 88 = .ok (.iconst 4, 1) := by decide +kernel
theorem d_X_init_89 : decode c_X_init 89 = .ok (.if_icmp .ge 22, 3) := by decide +kernel
theorem d_X_init_92 : decode c_X_init 92 = .ok (.aload_n 0, 1) := by decide +kernel
theorem d_X_init_93 : decode c_X_init 93 = .ok (.getfield 17, 3) := by decide +kernel
theorem d_X_init_96 : decode c_X_init 96 = .ok (.iload_n 1, 1) := by decide +kernel
theorem d_X_init_97 : decode c_X_init 97 = .ok (.new 15, 3) := by decide +kernel
theorem d_X_init_100 : decode c_X_init 100 = .ok (.dup, 1) := by decide +kernel
theorem d_X_init_101 : decode c_X_init 101 = .ok (.invokespecial 46, 3) := by decide +kernel
theorem d_X_init_104 : decode c_X_init 104 = .ok (.aastore, 1) := by decide +kernel
theorem d_X_init_105 : decode c_X_init 105 = .ok (.iinc 1 1, 3) := by decide +kernel
theorem d_X_init_108 : decode c_X_init 108 = .ok (.goto (-21), 3) := by decide +kernel
theorem d_X_init_111 : decode c_X_init 111 = .ok (.return_, 1) := by decide +kernel
theorem d_X_officeAt_0 : decode c_X_officeAt 0 = .ok (.iload_n 1, 1) := by decide +kernel
theorem d_X_officeAt_1 : decode c_X_officeAt 1 = .ok (.ifCond .lt 9, 3) := by decide +kernel
theorem d_X_officeAt_4 : decode c_X_officeAt 4 = .ok (.iload_n 1, 1) := by decide +kernel
theorem d_X_officeAt_5 : decode c_X_officeAt 5 = .ok (.bipush 8, 2) := by decide +kernel
theorem d_X_officeAt_7 : decode c_X_officeAt 7 = .ok (.if_icmp .lt 7, 3) := by decide +kernel
theorem d_X_officeAt_10 : decode c_X_officeAt 10 = .ok (.aconst_null, 1) := by decide +kernel
theorem d_X_officeAt_11 : decode c_X_officeAt 11 = .ok (.goto 9, 3) := by decide +kernel
theorem d_X_officeAt_14 : decode c_X_officeAt 14 = .ok (.aload_n 0, 1) := by decide +kernel
theorem d_X_officeAt_15 : decode c_X_officeAt 15 = .ok (.getfield 11, 3) := by decide +kernel
theorem d_X_officeAt_18 : decode c_X_officeAt 18 = .ok (.iload_n 1, 1) := by decide +kernel
theorem d_X_officeAt_19 : decode c_X_officeAt 19 = .ok (.aaload, 1) := by decide +kernel
theorem d_X_officeAt_20 : decode c_X_officeAt 20 = .ok (.areturn, 1) := by decide +kernel
theorem d_X_currencyAt_0 : decode c_X_currencyAt 0 = .ok (.iload_n 1, 1) := by decide +kernel
theorem d_X_currencyAt_1 : decode c_X_currencyAt 1 = .ok (.ifCond .lt 8, 3) := by decide +kernel
theorem d_X_currencyAt_4 : decode c_X_currencyAt 4 = .ok (.iload_n 1, 1) := by decide +kernel
theorem d_X_currencyAt_5 : decode c_X_currencyAt 5 = .ok (.iconst 4, 1) := by decide +kernel
theorem d_X_currencyAt_6 : decode c_X_currencyAt 6 = .ok (.if_icmp .lt 7, 3) := by decide +kernel
theorem d_X_currencyAt_9 : decode c_X_currencyAt 9 = .ok (.aconst_null, 1) := by decide +kernel
theorem d_X_currencyAt_10 : decode c_X_currencyAt 10 = .ok (.goto 9, 3) := by decide +kernel
theorem d_X_currencyAt_13 : decode c_X_currencyAt 13 = .ok (.aload_n 0, 1) := by decide +kernel
theorem d_X_currencyAt_14 : decode c_X_currencyAt 14 = .ok (.getfield 17, 3) := by decide +kernel
theorem d_X_currencyAt_17 : decode c_X_currencyAt 17 = .ok (.iload_n 1, 1) := by decide +kernel
theorem d_X_currencyAt_18 : decode c_X_currencyAt 18 = .ok (.aaload, 1) := by decide +kernel
theorem d_X_currencyAt_19 : decode c_X_currencyAt 19 = .ok (.areturn, 1) := by decide +kernel
theorem d_X_isOrderable_0 : decode c_X_isOrderable 0 = .ok (.lload_n 0, 1) := by decide +kernel
theorem d_X_isOrderable_1 : decode c_X_isOrderable 1 = .ok (.lconst 1, 1) := by decide +kernel
theorem d_X_isOrderable_2 : decode c_X_isOrderable 2 = .ok (.lcmp, 1) := by decide +kernel
theorem d_X_isOrderable_3 : decode c_X_isOrderable 3 = .ok (.ifCond .lt 15, 3) := by decide +kernel
theorem d_X_isOrderable_6 : decode c_X_isOrderable 6 = .ok (.lload_n 0, 1) := by decide +kernel
theorem d_X_isOrderable_7 : decode c_X_isOrderable 7 = .ok (.ldc2_w 219, 3) := by decide +kernel
theorem d_X_isOrderable_10 : decode c_X_isOrderable 10 = .ok (.lcmp, 1) := by decide +kernel
theorem d_X_isOrderable_11 : decode c_X_isOrderable 11 = .ok (.ifCond .gt 7, 3) := by decide +kernel
theorem d_X_isOrderable_14 : decode c_X_isOrderable 14 = .ok (.iconst 1, 1) := by decide +kernel
theorem d_X_isOrderable_15 : decode c_X_isOrderable 15 = .ok (.goto 4, 3) := by decide +kernel
theorem d_X_isOrderable_18 : decode c_X_isOrderable 18 = .ok (.iconst 0, 1) := by decide +kernel
theorem d_X_isOrderable_19 : decode c_X_isOrderable 19 = .ok (.ireturn, 1) := by decide +kernel
theorem d_X_numberOf_0 : decode c_X_numberOf 0 = .ok (.iconst 0, 1) := by decide +kernel
theorem d_X_numberOf_1 : decode c_X_numberOf 1 = .ok (.istore_n 1, 1) := by decide +kernel
theorem d_X_numberOf_2 : decode c_X_numberOf 2 = .ok (.iload_n 0, 1) := by decide +kernel
theorem d_X_numberOf_3 : decode c_X_numberOf 3 = .ok (.istore_n 2, 1) := by decide +kernel
theorem d_X_numberOf_4 : decode c_X_numberOf 4 = .ok (.iconst 0, 1) := by decide +kernel
theorem d_X_numberOf_5 : decode c_X_numberOf 5 = .ok (.istore_n 3, 1) := by decide +kernel
theorem d_X_numberOf_6 : decode c_X_numberOf 6 = .ok (.iload_n 3, 1) := by decide +kernel
theorem d_X_numberOf_7 : decode c_X_numberOf 7 = .ok (.bipush 10, 2) := by decide +kernel
theorem d_X_numberOf_9 : decode c_X_numberOf 9 = .ok (.if_icmp .ge 28, 3) := by decide +kernel
theorem d_X_numberOf_12 : decode c_X_numberOf 12 = .ok (.iload_n 1, 1) := by decide +kernel
theorem d_X_numberOf_13 : decode c_X_numberOf 13 = .ok (.iload_n 2, 1) := by decide +kernel
theorem d_X_numberOf_14 : decode c_X_numberOf 14 = .ok (.bipush 10, 2) := by decide +kernel
theorem d_X_numberOf_16 : decode c_X_numberOf 16 = .ok (.irem, 1) := by decide +kernel
theorem d_X_numberOf_17 : decode c_X_numberOf 17 = .ok (.iconst 2, 1) := by decide +kernel
theorem d_X_numberOf_18 : decode c_X_numberOf 18 = .ok (.iload_n 3, 1) := by decide +kernel
theorem d_X_numberOf_19 : decode c_X_numberOf 19 = .ok (.bipush 6, 2) := by decide +kernel
theorem d_X_numberOf_21 : decode c_X_numberOf 21 = .ok (.irem, 1) := by decide +kernel
theorem d_X_numberOf_22 : decode c_X_numberOf 22 = .ok (.iadd, 1) := by decide +kernel
theorem d_X_numberOf_23 : decode c_X_numberOf 23 = .ok (.imul, 1) := by decide +kernel
theorem d_X_numberOf_24 : decode c_X_numberOf 24 = .ok (.iadd, 1) := by decide +kernel
theorem d_X_numberOf_25 : decode c_X_numberOf 25 = .ok (.istore_n 1, 1) := by decide +kernel
theorem d_X_numberOf_26 : decode c_X_numberOf 26 = .ok (.iload_n 2, 1) := by decide +kernel
theorem d_X_numberOf_27 : decode c_X_numberOf 27 = .ok (.bipush 10, 2) := by decide +kernel
theorem d_X_numberOf_29 : decode c_X_numberOf 29 = .ok (.idiv, 1) := by decide +kernel
theorem d_X_numberOf_30 : decode c_X_numberOf 30 = .ok (.istore_n 2, 1) := by decide +kernel
theorem d_X_numberOf_31 : decode c_X_numberOf 31 = .ok (.iinc 3 1, 3) := by decide +kernel
theorem d_X_numberOf_34 : decode c_X_numberOf 34 = .ok (.goto (-28), 3) := by decide +kernel
theorem d_X_numberOf_37 : decode c_X_numberOf 37 = .ok (.bipush 10, 2) := by decide +kernel
theorem d_X_numberOf_39 : decode c_X_numberOf 39 = .ok (.iload_n 0, 1) := by decide +kernel
theorem d_X_numberOf_40 : decode c_X_numberOf 40 = .ok (.imul, 1) := by decide +kernel
theorem d_X_numberOf_41 : decode c_X_numberOf 41 = .ok (.iload_n 1, 1) := by decide +kernel
theorem d_X_numberOf_42 : decode c_X_numberOf 42 = .ok (.bipush 10, 2) := by decide +kernel
theorem d_X_numberOf_44 : decode c_X_numberOf 44 = .ok (.irem, 1) := by decide +kernel
theorem d_X_numberOf_45 : decode c_X_numberOf 45 = .ok (.iadd, 1) := by decide +kernel
theorem d_X_numberOf_46 : decode c_X_numberOf 46 = .ok (.ireturn, 1) := by decide +kernel
theorem d_Order_init_0 : decode c_Order_init 0 = .ok (.aload_n 0, 1) := by decide +kernel
theorem d_Order_init_1 : decode c_Order_init 1 = .ok (.invokespecial 3, 3) := by decide +kernel
theorem d_Order_init_4 : decode c_Order_init 4 = .ok (.aload_n 0, 1) := by decide +kernel
theorem d_Order_init_5 : decode c_Order_init 5 = .ok (.iconst 0, 1) := by decide +kernel
theorem d_Order_init_6 : decode c_Order_init 6 = .ok (.putfield 9, 3) := by decide +kernel
theorem d_Order_init_9 : decode c_Order_init 9 = .ok (.aload_n 0, 1) := by decide +kernel
theorem d_Order_init_10 : decode c_Order_init 10 = .ok (.ldc2_w 15, 3) := by decide +kernel
theorem d_Order_init_13 : decode c_Order_init 13 = .ok (.putfield 17, 3) := by decide +kernel
theorem d_Order_init_16 : decode c_Order_init 16 = .ok (.aload_n 0, 1) := by decide +kernel
theorem d_Order_init_17 : decode c_Order_init 17 = .ok (.iload_n 1, 1) := by decide +kernel
theorem d_Order_init_18 : decode c_Order_init 18 = .ok (.putfield 21, 3) := by decide +kernel
theorem d_Order_init_21 : decode c_Order_init 21 = .ok (.aload_n 0, 1) := by decide +kernel
theorem d_Order_init_22 : decode c_Order_init 22 = .ok (.aload_n 2, 1) := by decide +kernel
theorem d_Order_init_23 : decode c_Order_init 23 = .ok (.putfield 24, 3) := by decide +kernel
theorem d_Order_init_26 : decode c_Order_init 26 = .ok (.aload_n 0, 1) := by decide +kernel
theorem d_Order_init_27 : decode c_Order_init 27 = .ok (.lload_n 3, 1) := by decide +kernel
theorem d_Order_init_28 : decode c_Order_init 28 = .ok (.putfield 28, 3) := by decide +kernel
theorem d_Order_init_31 : decode c_Order_init 31 = .ok (.aload_n 0, 1) := by decide +kernel
theorem d_Order_init_32 : decode c_Order_init 32 = .ok (.lload 5, 2) := by decide +kernel
theorem d_Order_init_34 : decode c_Order_init 34 = .ok (.putfield 31, 3) := by decide +kernel
theorem d_Order_init_37 : decode c_Order_init 37 = .ok (.aload_n 0, 1) := by decide +kernel
theorem d_Order_init_38 : decode c_Order_init 38 = .ok (.aload 7, 2) := by decide +kernel
theorem d_Order_init_40 : decode c_Order_init 40 = .ok (.putfield 34, 3) := by decide +kernel
theorem d_Order_init_43 : decode c_Order_init 43 = .ok (.aload_n 0, 1) := by decide +kernel
theorem d_Order_init_44 : decode c_Order_init 44 = .ok (.iload 8, 2) := by decide +kernel
theorem d_Order_init_46 : decode c_Order_init 46 = .ok (.putfield 38, 3) := by decide +kernel
theorem d_Order_init_49 : decode c_Order_init 49 = .ok (.return_, 1) := by decide +kernel
theorem d_X_addOrder_0 : decode c_X_addOrder 0 = .ok (.aload_n 0, 1) := by decide +kernel
theorem d_X_addOrder_1 : decode c_X_addOrder 1 = .ok (.getfield 59, 3) := by decide +kernel
theorem d_X_addOrder_4 : decode c_X_addOrder 4 = .ok (.iconst 1, 1) := by decide +kernel
theorem d_X_addOrder_5 : decode c_X_addOrder 5 = .ok (.iadd, 1) := by decide +kernel
theorem d_X_addOrder_6 : decode c_X_addOrder 6 = .ok (.invokestatic 225, 3) := by decide +kernel
theorem d_X_addOrder_9 : decode c_X_addOrder 9 = .ok (.istore 8, 2) := by decide +kernel
theorem d_X_addOrder_11 : decode c_X_addOrder 11 = .ok (.aload_n 0, 1) := by decide +kernel
theorem d_X_addOrder_12 : decode c_X_addOrder 12 = .ok (.getfield 23, 3) := by decide +kernel
theorem d_X_addOrder_15 : decode c_X_addOrder 15 = .ok (.aload_n 0, 1) := by decide +kernel
theorem d_X_addOrder_16 : decode c_X_addOrder 16 = .ok (.getfield 59, 3) := by decide +kernel
theorem d_X_addOrder_19 : decode c_X_addOrder 19 = .ok (.new 21, 3) := by decide +kernel
theorem d_X_addOrder_22 : decode c_X_addOrder 22 = .ok (.dup, 1) := by decide +kernel
theorem d_X_addOrder_23 : decode c_X_addOrder 23 = .ok (.iload 8, 2) := by decide +kernel
theorem d_X_addOrder_25 : decode c_X_addOrder 25 = .ok (.aload_n 1, 1) := by decide +kernel
theorem d_X_addOrder_26 : decode c_X_addOrder 26 = .ok (.lload_n 2, 1) := by decide +kernel
theorem d_X_addOrder_27 : decode c_X_addOrder 27 = .ok (.lload 4, 2) := by decide +kernel
theorem d_X_addOrder_29 : decode c_X_addOrder 29 = .ok (.aload 6, 2) := by decide +kernel
theorem d_X_addOrder_31 : decode c_X_addOrder 31 = .ok (.iload 7, 2) := by decide +kernel
theorem d_X_addOrder_33 : decode c_X_addOrder 33 = .ok (.invokespecial 228, 3) := by decide +kernel
theorem d_X_addOrder_36 : decode c_X_addOrder 36 = .ok (.aastore, 1) := by decide +kernel
theorem d_X_addOrder_37 : decode c_X_addOrder 37 = .ok (.aload_n 0, 1) := by decide +kernel
theorem d_X_addOrder_38 : decode c_X_addOrder 38 = .ok (.dup, 1) := by decide +kernel
theorem d_X_addOrder_39 : decode c_X_addOrder 39 = .ok (.getfield 59, 3) := by decide +kernel
theorem d_X_addOrder_42 : decode c_X_addOrder 42 = .ok (.iconst 1, 1) := by decide +kernel
theorem d_X_addOrder_43 : decode c_X_addOrder 43 = .ok (.iadd, 1) := by decide +kernel
theorem d_X_addOrder_44 : decode c_X_addOrder 44 = .ok (.putfield 59, 3) := by decide +kernel
theorem d_X_addOrder_47 : decode c_X_addOrder 47 = .ok (.iload 8, 2) := by decide +kernel
theorem d_X_addOrder_49 : decode c_X_addOrder 49 = .ok (.ireturn, 1) := by decide +kernel
theorem d_X_order_0 : decode c_X_order 0 = .ok (.aload_n 0, 1) := by decide +kernel
theorem d_X_order_1 : decode c_X_order 1 = .ok (.iload_n 1, 1) := by decide +kernel
theorem d_X_order_2 : decode c_X_order 2 = .ok (.invokevirtual 47, 3) := by decide +kernel
theorem d_X_order_5 : decode c_X_order 5 = .ok (.astore 8, 2) := by decide +kernel
theorem d_X_order_7 : decode c_X_order 7 = .ok (.aload_n 0, 1) := by decide +kernel
theorem d_X_order_8 : decode c_X_order 8 = .ok (.iload 6, 2) := by decide +kernel
theorem d_X_order_10 : decode c_X_order 10 = .ok (.invokevirtual 51, 3) := by decide +kernel
theorem d_X_order_13 : decode c_X_order 13 = .ok (.astore 9, 2) := by decide +kernel
theorem d_X_order_15 : decode c_X_order 15 = .ok (.aload 8, 2) := by decide +kernel
theorem d_X_order_17 : decode c_X_order 17 = .ok (.ifnull 27, 3) := by decide +kernel
theorem d_X_order_20 : decode c_X_order 20 = .ok (.aload 9, 2) := by decide +kernel
theorem d_X_order_22 : decode c_X_order 22 = .ok (.ifnull 22, 3) := by decide +kernel
theorem d_X_order_25 : decode c_X_order 25 = .ok (.lload_n 2, 1) := by decide +kernel
theorem d_X_order_26 : decode c_X_order 26 = .ok (.invokestatic 55, 3) := by decide +kernel
theorem d_X_order_29 : decode c_X_order 29 = .ok (.ifCond .eq 15, 3) := by decide +kernel
theorem d_X_order_32 : decode c_X_order 32 = .ok (.lload 4, 2) := by decide +kernel
theorem d_X_order_34 : decode c_X_order 34 = .ok (.lconst 0, 1) := by decide +kernel
theorem d_X_order_35 : decode c_X_order 35 = .ok (.lcmp, 1) := by decide +kernel
theorem d_X_order_36 : decode c_X_order 36 = .ok (.ifCond .lt 8, 3) := by decide +kernel
theorem d_X_order_39 : decode c_X_order 39 = .ok (.iload 7, 2) := by decide +kernel
theorem d_X_order_41 : decode c_X_order 41 = .ok (.ifCond .ge 6, 3) := by decide +kernel
theorem d_X_order_44 : decode c_X_order 44 = .ok (.bipush (-102), 2) := by decide +kernel
theorem d_X_order_46 : decode c_X_order 46 = .ok (.ireturn, 1) := by decide +kernel
theorem d_X_order_47 : decode c_X_order 47 = .ok (.aload_n 0, 1) := by decide +kernel
theorem d_X_order_48 : decode c_X_order 48 = .ok (.getfield 59, 3) := by decide +kernel
theorem d_X_order_51 : decode c_X_order 51 = .ok (.sipush 300, 3) := by decide +kernel
theorem d_X_order_54 : decode c_X_order 54 = .ok (.if_icmp .lt 6, 3) := by decide +kernel
theorem d_X_order_57 : decode c_X_order 57 = .ok (.bipush (-104), 2) := by decide +kernel
theorem d_X_order_59 : decode c_X_order 59 = .ok (.ireturn, 1) := by decide +kernel
theorem d_X_order_60 : decode c_X_order 60 = .ok (.aload 8, 2) := by decide +kernel
theorem d_X_order_62 : decode c_X_order 62 = .ok (.dup, 1) := by decide +kernel
theorem d_X_order_63 : decode c_X_order 63 = .ok (.getfield 63, 3) := by decide +kernel
theorem d_X_order_66 : decode c_X_order 66 = .ok (.lload_n 2, 1) := by decide +kernel
theorem d_X_order_67 : decode c_X_order 67 = .ok (.ladd, 1) := by decide +kernel
theorem d_X_order_68 : decode c_X_order 68 = .ok (.putfield 63, 3) := by decide +kernel
theorem d_X_order_71 : decode c_X_order 71 = .ok (.aload_n 0, 1) := by decide +kernel
theorem d_X_order_72 : decode c_X_order 72 = .ok (.getfield 39, 3) := by decide +kernel
theorem d_X_order_75 : decode c_X_order 75 = .ok (.iconst 0, 1) := by decide +kernel
theorem d_X_order_76 : decode c_X_order 76 = .ok (.dup2, 1) := by decide +kernel
theorem d_X_order_77 : decode c_X_order 77 = .ok (.laload, 1) := by decide +kernel
theorem d_X_order_78 : decode c_X_order 78 = .ok (.lload_n 2, 1) := by decide +kernel
theorem d_X_order_79 : decode c_X_order 79 = .ok (.ladd, 1) := by decide +kernel
theorem d_X_order_80 : decode c_X_order 80 = .ok (.lastore, 1) := by decide +kernel
theorem d_X_order_81 : decode c_X_order 81 = .ok (.aload_n 0, 1) := by decide +kernel
theorem d_X_order_82 : decode c_X_order 82 = .ok (.aload 8, 2) := by decide +kernel
theorem d_X_order_84 : decode c_X_order 84 = .ok (.lload_n 2, 1) := by decide +kernel
theorem d_X_order_85 : decode c_X_order 85 = .ok (.lload 4, 2) := by decide +kernel
theorem d_X_order_87 : decode c_X_order 87 = .ok (.aload 9, 2) := by decide +kernel
theorem d_X_order_89 : decode c_X_order 89 = .ok (.iload 7, 2) := by decide +kernel
theorem d_X_order_91 : decode c_X_order 91 = .ok (.invokevirtual 67, 3) := by decide +kernel
theorem d_X_order_94 : decode c_X_order 94 = .ok (.ireturn, 1) := by decide +kernel
theorem d_X_find_0 : decode c_X_find 0 = .ok (.lload_n 1, 1) := by decide +kernel
theorem d_X_find_1 : decode c_X_find 1 = .ok (.ldc2_w 221, 3) := by decide +kernel
theorem d_X_find_4 : decode c_X_find 4 = .ok (.ldiv, 1) := by decide +kernel
theorem d_X_find_5 : decode c_X_find 5 = .ok (.lstore_n 3, 1) := by decide +kernel
theorem d_X_find_6 : decode c_X_find 6 = .ok (.lload_n 3, 1) := by decide +kernel
theorem d_X_find_7 : decode c_X_find 7 = .ok (.lconst 1, 1) := by decide +kernel
theorem d_X_find_8 : decode c_X_find 8 = .ok (.lcmp, 1) := by decide +kernel
theorem d_X_find_9 : decode c_X_find 9 = .ok (.ifCond .lt 13, 3) := by decide +kernel
theorem d_X_find_12 : decode c_X_find 12 = .ok (.lload_n 3, 1) := by decide +kernel
theorem d_X_find_13 : decode c_X_find 13 = .ok (.aload_n 0, 1) := by decide +kernel
theorem d_X_find_14 : decode c_X_find 14 = .ok (.getfield 59, 3) := by decide +kernel
theorem d_X_find_17 : decode c_X_find 17 = .ok (.i2l, 1) := by decide +kernel
theorem d_X_find_18 : decode c_X_find 18 = .ok (.lcmp, 1) := by decide +kernel
theorem d_X_find_19 : decode c_X_find 19 = .ok (.ifCond .le 5, 3) := by decide +kernel
theorem d_X_find_22 : decode c_X_find 22 = .ok (.aconst_null, 1) := by decide +kernel
theorem d_X_find_23 : decode c_X_find 23 = .ok (.areturn, 1) := by decide +kernel
theorem d_X_find_24 : decode c_X_find 24 = .ok (.aload_n 0, 1) := by decide +kernel
theorem d_X_find_25 : decode c_X_find 25 = .ok (.getfield 23, 3) := by decide +kernel
theorem d_X_find_28 : decode c_X_find 28 = .ok (.lload_n 3, 1) := by decide +kernel
theorem d_X_find_29 : decode c_X_find 29 = .ok (.l2i, 1) := by decide +kernel
theorem d_X_find_30 : decode c_X_find 30 = .ok (.iconst 1, 1) := by decide +kernel
theorem d_X_find_31 : decode c_X_find 31 = .ok (.isub, 1) := by decide +kernel
theorem d_X_find_32 : decode c_X_find 32 = .ok (.aaload, 1) := by decide +kernel
theorem d_X_find_33 : decode c_X_find 33 = .ok (.astore 5, 2) := by decide +kernel
theorem d_X_find_35 : decode c_X_find 35 = .ok (.aload 5, 2) := by decide +kernel
theorem d_X_find_37 : decode c_X_find 37 = .ok (.ifnull 14, 3) := by decide +kernel
theorem d_X_find_40 : decode c_X_find 40 = .ok (.aload 5, 2) := by decide +kernel
theorem d_X_find_42 : decode c_X_find 42 = .ok (.getfield 223, 3) := by decide +kernel
theorem d_X_find_45 : decode c_X_find 45 = .ok (.i2l, 1) := by decide +kernel
theorem d_X_find_46 : decode c_X_find 46 = .ok (.lload_n 1, 1) := by decide +kernel
theorem d_X_find_47 : decode c_X_find 47 = .ok (.lcmp, 1) := by decide +kernel
theorem d_X_find_48 : decode c_X_find 48 = .ok (.ifCond .eq 7, 3) := by decide +kernel
theorem d_X_find_51 : decode c_X_find 51 = .ok (.aconst_null, 1) := by decide +kernel
theorem d_X_find_52 : decode c_X_find 52 = .ok (.goto 5, 3) := by decide +kernel
theorem d_X_find_55 : decode c_X_find 55 = .ok (.aload 5, 2) := by decide +kernel
theorem d_X_find_57 : decode c_X_find 57 = .ok (.areturn, 1) := by decide +kernel
theorem d_Office_mayTouch_0 : decode c_Office_mayTouch 0 = .ok (.aload_n 1, 1) := by decide +kernel
theorem d_Office_mayTouch_1 : decode c_Office_mayTouch 1 = .ok (.getfield 24, 3) := by decide +kernel
theorem d_Office_mayTouch_4 : decode c_Office_mayTouch 4 = .ok (.aload_n 0, 1) := by decide +kernel
theorem d_Office_mayTouch_5 : decode c_Office_mayTouch 5 = .ok (.if_acmp .eq 17, 3) := by decide +kernel
theorem d_Office_mayTouch_8 : decode c_Office_mayTouch 8 = .ok (.aload_n 1, 1) := by decide +kernel
theorem d_Office_mayTouch_9 : decode c_Office_mayTouch 9 = .ok (.getfield 24, 3) := by decide +kernel
theorem d_Office_mayTouch_12 : decode c_Office_mayTouch 12 = .ok (.ifnonnull 14, 3) := by decide +kernel
theorem d_Office_mayTouch_15 : decode c_Office_mayTouch 15 = .ok (.aload_n 0, 1) := by decide +kernel
theorem d_Office_mayTouch_16 : decode c_Office_mayTouch 16 = .ok (.getfield 30, 3) := by decide +kernel
theorem d_Office_mayTouch_19 : decode c_Office_mayTouch 19 = .ok (.ifCond .ne 7, 3) := by decide +kernel
theorem d_Office_mayTouch_22 : decode c_Office_mayTouch 22 = .ok (.iconst 1, 1) := by decide +kernel
theorem d_Office_mayTouch_23 : decode c_Office_mayTouch 23 = .ok (.goto 4, 3) := by decide +kernel
theorem d_Office_mayTouch_26 : decode c_Office_mayTouch 26 = .ok (.iconst 0, 1) := by decide +kernel
theorem d_Office_mayTouch_27 : decode c_Office_mayTouch 27 = .ok (.ireturn, 1) := by decide +kernel
theorem d_Office_takesFailing_0 : decode c_Office_takesFailing 0 = .ok (.iconst 1, 1) := by decide +kernel
theorem d_Office_takesFailing_1 : decode c_Office_takesFailing 1 = .ok (.iload_n 1, 1) := by decide +kernel
theorem d_Office_takesFailing_2 : decode c_Office_takesFailing 2 = .ok (.ishl, 1) := by decide +kernel
theorem d_Office_takesFailing_3 : decode c_Office_takesFailing 3 = .ok (.istore_n 2, 1) := by decide +kernel
theorem d_Office_takesFailing_4 : decode c_Office_takesFailing 4 = .ok (.aload_n 0, 1) := by decide +kernel
theorem d_Office_takesFailing_5 : decode c_Office_takesFailing 5 = .ok (.getfield 34, 3) := by decide +kernel
theorem d_Office_takesFailing_8 : decode c_Office_takesFailing 8 = .ok (.iload_n 2, 1) := by decide +kernel
theorem d_Office_takesFailing_9 : decode c_Office_takesFailing 9 = .ok (.iand, 1) := by decide +kernel
theorem d_Office_takesFailing_10 : decode c_Office_takesFailing 10 = .ok (.ifCond .eq 7, 3) := by decide +kernel
theorem d_Office_takesFailing_13 : decode c_Office_takesFailing 13 = .ok (.iconst 1, 1) := by decide +kernel
theorem d_Office_takesFailing_14 : decode c_Office_takesFailing 14 = .ok (.goto 4, 3) := by decide +kernel
theorem d_Office_takesFailing_17 : decode c_Office_takesFailing 17 = .ok (.iconst 0, 1) := by decide +kernel
theorem d_Office_takesFailing_18 : decode c_Office_takesFailing 18 = .ok (.istore_n 3, 1) := by decide +kernel
theorem d_Office_takesFailing_19 : decode c_Office_takesFailing 19 = .ok (.aload_n 0, 1) := by decide +kernel
theorem d_Office_takesFailing_20 : decode c_Office_takesFailing 20 = .ok (.dup, 1) := by decide +kernel
theorem d_Office_takesFailing_21 : decode c_Office_takesFailing 21 = .ok (.getfield 34, 3) := by decide +kernel
theorem d_Office_takesFailing_24 : decode c_Office_takesFailing 24 = .ok (.iload_n 2, 1) := by decide +kernel
theorem d_Office_takesFailing_25 : decode c_Office_takesFailing 25 = .ok (.iconst (-1), 1) := by decide +kernel
theorem d_Office_takesFailing_26 : decode c_Office_takesFailing 26 = .ok (.ixor, 1) := by decide +kernel
theorem d_Office_takesFailing_27 : decode c_Office_takesFailing 27 = .ok (.iand, 1) := by decide +kernel
theorem d_Office_takesFailing_28 : decode c_Office_takesFailing 28 = .ok (.putfield 34, 3) := by decide +kernel
theorem d_Office_takesFailing_31 : decode c_Office_takesFailing 31 = .ok (.iload_n 3, 1) := by decide +kernel
theorem d_Office_takesFailing_32 : decode c_Office_takesFailing 32 = .ok (.ireturn, 1) := by decide +kernel
theorem d_Order_sum_0 : decode c_Order_sum 0 = .ok (.aload_n 0, 1) := by decide +kernel
theorem d_Order_sum_1 : decode c_Order_sum 1 = .ok (.getfield 28, 3) := by decide +kernel
theorem d_Order_sum_4 : decode c_Order_sum 4 = .ok (.aload_n 0, 1) := by decide +kernel
theorem d_Order_sum_5 : decode c_Order_sum 5 = .ok (.getfield 34, 3) := by decide +kernel
theorem d_Order_sum_8 : decode c_Order_sum 8 = .ok (.getfield 41, 3) := by decide +kernel
theorem d_Order_sum_11 : decode c_Order_sum 11 = .ok (.lmul, 1) := by decide +kernel
theorem d_Order_sum_12 : decode c_Order_sum 12 = .ok (.ldc2_w 46, 3) := by decide +kernel
theorem d_Order_sum_15 : decode c_Order_sum 15 = .ok (.ldiv, 1) := by decide +kernel
theorem d_Order_sum_16 : decode c_Order_sum 16 = .ok (.lreturn, 1) := by decide +kernel
theorem d_Office_keepsLimit_0 : decode c_Office_keepsLimit 0 = .ok (.lload_n 3, 1) := by decide +kernel
theorem d_Office_keepsLimit_1 : decode c_Office_keepsLimit 1 = .ok (.aload_n 0, 1) := by decide +kernel
theorem d_Office_keepsLimit_2 : decode c_Office_keepsLimit 2 = .ok (.getfield 17, 3) := by decide +kernel
theorem d_Office_keepsLimit_5 : decode c_Office_keepsLimit 5 = .ok (.lcmp, 1) := by decide +kernel
theorem d_Office_keepsLimit_6 : decode c_Office_keepsLimit 6 = .ok (.ifCond .ne 10, 3) := by decide +kernel
theorem d_Office_keepsLimit_9 : decode c_Office_keepsLimit 9 = .ok (.aload_n 0, 1) := by decide +kernel
theorem d_Office_keepsLimit_10 : decode c_Office_keepsLimit 10 = .ok (.getfield 37, 3) := by decide +kernel
theorem d_Office_keepsLimit_13 : decode c_Office_keepsLimit 13 = .ok (.goto 4, 3) := by decide +kernel
theorem d_Office_keepsLimit_16 : decode c_Office_keepsLimit 16 = .ok (.lconst 0, 1) := by decide +kernel
theorem d_Office_keepsLimit_17 : decode c_Office_keepsLimit 17 = .ok (.lstore 5, 2) := by decide +kernel
theorem d_Office_keepsLimit_19 : decode c_Office_keepsLimit 19 = .ok (.aload_n 0, 1) := by decide +kernel
theorem d_Office_keepsLimit_20 : decode c_Office_keepsLimit 20 = .ok (.getfield 11, 3) := by decide +kernel
theorem d_Office_keepsLimit_23 : decode c_Office_keepsLimit 23 = .ok (.ldc2_w 9, 3) := by decide +kernel
theorem d_Office_keepsLimit_26 : decode c_Office_keepsLimit 26 = .ok (.lcmp, 1) := by decide +kernel
theorem d_Office_keepsLimit_27 : decode c_Office_keepsLimit 27 = .ok (.ifCond .eq 15, 3) := by decide +kernel
theorem d_Office_keepsLimit_30 : decode c_Office_keepsLimit 30 = .ok (.lload 5, 2) := by decide +kernel
theorem d_Office_keepsLimit_32 : decode c_Office_keepsLimit 32 = .ok (.lload_n 1, 1) := by decide +kernel
