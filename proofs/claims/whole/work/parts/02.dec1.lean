theorem dX6_lossBefore_8 : decode cX6_lossBefore 8 = .ok (.getfield 100, 3) := by decide +kernel
theorem dX6_lossBefore_11 : decode cX6_lossBefore 11 = .ok (.iconst 1, 1) := by decide +kernel
theorem dX6_lossBefore_12 : decode cX6_lossBefore 12 = .ok (.isub, 1) := by decide +kernel
theorem dX6_lossBefore_13 : decode cX6_lossBefore 13 = .ok (.if_icmp .ge 31, 3) := by decide +kernel
theorem dX6_lossBefore_16 : decode cX6_lossBefore 16 = .ok (.aload_n 0, 1) := by decide +kernel
theorem dX6_lossBefore_17 : decode cX6_lossBefore 17 = .ok (.iload 4, 2) := by decide +kernel
theorem dX6_lossBefore_19 : decode cX6_lossBefore 19 = .ok (.invokevirtual 199, 3) := by decide +kernel
theorem dX6_lossBefore_22 : decode cX6_lossBefore 22 = .ok (.astore 5, 2) := by decide +kernel
theorem dX6_lossBefore_24 : decode cX6_lossBefore 24 = .ok (.aload 5, 2) := by decide +kernel
theorem dX6_lossBefore_26 : decode cX6_lossBefore 26 = .ok (.ifnull 12, 3) := by decide +kernel
theorem dX6_lossBefore_29 : decode cX6_lossBefore 29 = .ok (.lload_n 2, 1) := by decide +kernel
theorem dX6_lossBefore_30 : decode cX6_lossBefore 30 = .ok (.aload 5, 2) := by decide +kernel
theorem dX6_lossBefore_32 : decode cX6_lossBefore 32 = .ok (.iload_n 1, 1) := by decide +kernel
theorem dX6_lossBefore_33 : decode cX6_lossBefore 33 = .ok (.invokevirtual 283, 3) := by decide +kernel
theorem dX6_lossBefore_36 : decode cX6_lossBefore 36 = .ok (.ladd, 1) := by decide +kernel
theorem dX6_lossBefore_37 : decode cX6_lossBefore 37 = .ok (.lstore_n 2, 1) := by decide +kernel
theorem dX6_lossBefore_38 : decode cX6_lossBefore 38 = .ok (.iinc 4 1, 3) := by decide +kernel
theorem dX6_lossBefore_41 : decode cX6_lossBefore 41 = .ok (.goto (-36), 3) := by decide +kernel
theorem dX6_lossBefore_44 : decode cX6_lossBefore 44 = .ok (.lload_n 2, 1) := by decide +kernel
theorem dX6_lossBefore_45 : decode cX6_lossBefore 45 = .ok (.lreturn, 1) := by decide +kernel
theorem dX6_share_0 : decode cX6_share 0 = .ok (.aload_n 1, 1) := by decide +kernel
theorem dX6_share_1 : decode cX6_share 1 = .ok (.getfield 274, 3) := by decide +kernel
theorem dX6_share_4 : decode cX6_share 4 = .ok (.lstore_n 3, 1) := by decide +kernel
theorem dX6_share_5 : decode cX6_share 5 = .ok (.iconst 0, 1) := by decide +kernel
theorem dX6_share_6 : decode cX6_share 6 = .ok (.istore 5, 2) := by decide +kernel
theorem dX6_share_8 : decode cX6_share 8 = .ok (.iload 5, 2) := by decide +kernel
theorem dX6_share_10 : decode cX6_share 10 = .ok (.aload_n 2, 1) := by decide +kernel
theorem dX6_share_11 : decode cX6_share 11 = .ok (.getfield 286, 3) := by decide +kernel
theorem dX6_share_14 : decode cX6_share 14 = .ok (.if_icmp .ge 106, 3) := by decide +kernel
theorem dX6_share_17 : decode cX6_share 17 = .ok (.iload 5, 2) := by decide +kernel
theorem dX6_share_19 : decode cX6_share 19 = .ok (.iconst 4, 1) := by decide +kernel
theorem dX6_share_20 : decode cX6_share 20 = .ok (.if_icmp .ge 100, 3) := by decide +kernel
theorem dX6_share_23 : decode cX6_share 23 = .ok (.aload_n 2, 1) := by decide +kernel
theorem dX6_share_24 : decode cX6_share 24 = .ok (.getfield 289, 3) := by decide +kernel
theorem dX6_share_27 : decode cX6_share 27 = .ok (.iload 5, 2) := by decide +kernel
theorem dX6_share_29 : decode cX6_share 29 = .ok (.iaload, 1) := by decide +kernel
theorem dX6_share_30 : decode cX6_share 30 = .ok (.iconst 1, 1) := by decide +kernel
theorem dX6_share_31 : decode cX6_share 31 = .ok (.if_icmp .ne 7, 3) := by decide +kernel
theorem dX6_share_34 : decode cX6_share 34 = .ok (.iconst 1, 1) := by decide +kernel
theorem dX6_share_35 : decode cX6_share 35 = .ok (.goto 4, 3) := by decide +kernel
theorem dX6_share_38 : decode cX6_share 38 = .ok (.iconst 0, 1) := by decide +kernel
theorem dX6_share_39 : decode cX6_share 39 = .ok (.istore 6, 2) := by decide +kernel
theorem dX6_share_41 : decode cX6_share 41 = .ok (.iload 6, 2) := by decide +kernel
theorem dX6_share_43 : decode cX6_share 43 = .ok (.ifCond .eq 13, 3) := by decide +kernel
theorem dX6_share_46 : decode cX6_share 46 = .ok (.aload_n 2, 1) := by decide +kernel
theorem dX6_share_47 : decode cX6_share 47 = .ok (.getfield 292, 3) := by decide +kernel
theorem dX6_share_50 : decode cX6_share 50 = .ok (.iload 5, 2) := by decide +kernel
theorem dX6_share_52 : decode cX6_share 52 = .ok (.laload, 1) := by decide +kernel
theorem dX6_share_53 : decode cX6_share 53 = .ok (.goto 20, 3) := by decide +kernel
theorem dX6_share_56 : decode cX6_share 56 = .ok (.aload_n 1, 1) := by decide +kernel
theorem dX6_share_57 : decode cX6_share 57 = .ok (.getfield 274, 3) := by decide +kernel
theorem dX6_share_60 : decode cX6_share 60 = .ok (.aload_n 2, 1) := by decide +kernel
theorem dX6_share_61 : decode cX6_share 61 = .ok (.getfield 296, 3) := by decide +kernel
theorem dX6_share_64 : decode cX6_share 64 = .ok (.iload 5, 2) := by decide +kernel
theorem dX6_share_66 : decode cX6_share 66 = .ok (.iaload, 1) := by decide +kernel
theorem dX6_share_67 : decode cX6_share 67 = .ok (.i2l, 1) := by decide +kernel
theorem dX6_share_68 : decode cX6_share 68 = .ok (.lmul, 1) := by decide +kernel
theorem dX6_share_69 : decode cX6_share 69 = .ok (.ldc2_w 266, 3) := by decide +kernel
theorem dX6_share_72 : decode cX6_share 72 = .ok (.ldiv, 1) := by decide +kernel
theorem dX6_share_73 : decode cX6_share 73 = .ok (.lstore 7, 2) := by decide +kernel
theorem dX6_share_75 : decode cX6_share 75 = .ok (.lload_n 3, 1) := by decide +kernel
theorem dX6_share_76 : decode cX6_share 76 = .ok (.lload 7, 2) := by decide +kernel
theorem dX6_share_78 : decode cX6_share 78 = .ok (.invokestatic 268, 3) := by decide +kernel
theorem dX6_share_81 : decode cX6_share 81 = .ok (.lstore 9, 2) := by decide +kernel
theorem dX6_share_83 : decode cX6_share 83 = .ok (.iload 6, 2) := by decide +kernel
theorem dX6_share_85 : decode cX6_share 85 = .ok (.ifCond .eq 15, 3) := by decide +kernel
theorem dX6_share_88 : decode cX6_share 88 = .ok (.aload_n 2, 1) := by decide +kernel
theorem dX6_share_89 : decode cX6_share 89 = .ok (.getfield 292, 3) := by decide +kernel
theorem dX6_share_92 : decode cX6_share 92 = .ok (.iload 5, 2) := by decide +kernel
theorem dX6_share_94 : decode cX6_share 94 = .ok (.dup2, 1) := by decide +kernel
theorem dX6_share_95 : decode cX6_share 95 = .ok (.laload, 1) := by decide +kernel
theorem dX6_share_96 : decode cX6_share 96 = .ok (.lload 9, 2) := by decide +kernel
theorem dX6_share_98 : decode cX6_share 98 = .ok (.lsub, 1) := by decide +kernel
theorem dX6_share_99 : decode cX6_share 99 = .ok (.lastore, 1) := by decide +kernel
theorem dX6_share_100 : decode cX6_share 100 = .ok (.aload_n 1, 1) := by decide +kernel
theorem dX6_share_101 : decode cX6_share 101 = .ok (.getfield 299, 3) := by decide +kernel
theorem dX6_share_104 : decode cX6_share 104 = .ok (.iload 5, 2) := by decide +kernel
theorem dX6_share_106 : decode cX6_share 106 = .ok (.lload 9, 2) := by decide +kernel
theorem dX6_share_108 : decode cX6_share 108 = .ok (.lastore, 1) := by decide +kernel
theorem dX6_share_109 : decode cX6_share 109 = .ok (.lload_n 3, 1) := by decide +kernel
theorem dX6_share_110 : decode cX6_share 110 = .ok (.lload 9, 2) := by decide +kernel
theorem dX6_share_112 : decode cX6_share 112 = .ok (.lsub, 1) := by decide +kernel
theorem dX6_share_113 : decode cX6_share 113 = .ok (.lstore_n 3, 1) := by decide +kernel
theorem dX6_share_114 : decode cX6_share 114 = .ok (.iinc 5 1, 3) := by decide +kernel
theorem dX6_share_117 : decode cX6_share 117 = .ok (.goto (-109), 3) := by decide +kernel
theorem dX6_share_120 : decode cX6_share 120 = .ok (.aload_n 1, 1) := by decide +kernel
theorem dX6_share_121 : decode cX6_share 121 = .ok (.lload_n 3, 1) := by decide +kernel
theorem dX6_share_122 : decode cX6_share 122 = .ok (.putfield 302, 3) := by decide +kernel
theorem dX6_share_125 : decode cX6_share 125 = .ok (.return_, 1) := by decide +kernel
theorem dX6_oweDebtsAgain_0 : decode cX6_oweDebtsAgain 0 = .ok (.aload_n 0, 1) := by decide +kernel
theorem dX6_oweDebtsAgain_1 : decode cX6_oweDebtsAgain 1 = .ok (.aload_n 1, 1) := by decide +kernel
theorem dX6_oweDebtsAgain_2 : decode cX6_oweDebtsAgain 2 = .ok (.getfield 212, 3) := by decide +kernel
theorem dX6_oweDebtsAgain_5 : decode cX6_oweDebtsAgain 5 = .ok (.invokevirtual 69, 3) := by decide +kernel
theorem dX6_oweDebtsAgain_8 : decode cX6_oweDebtsAgain 8 = .ok (.ifCond .ne 4, 3) := by decide +kernel
theorem dX6_oweDebtsAgain_11 : decode cX6_oweDebtsAgain 11 = .ok (.return_, 1) := by decide +kernel
theorem dX6_oweDebtsAgain_12 : decode cX6_oweDebtsAgain 12 = .ok (.aload_n 0, 1) := by decide +kernel
theorem dX6_oweDebtsAgain_13 : decode cX6_oweDebtsAgain 13 = .ok (.getfield 25, 3) := by decide +kernel
theorem dX6_oweDebtsAgain_16 : decode cX6_oweDebtsAgain 16 = .ok (.aload_n 1, 1) := by decide +kernel
theorem dX6_oweDebtsAgain_17 : decode cX6_oweDebtsAgain 17 = .ok (.getfield 212, 3) := by decide +kernel
theorem dX6_oweDebtsAgain_20 : decode cX6_oweDebtsAgain 20 = .ok (.aaload, 1) := by decide +kernel
theorem dX6_oweDebtsAgain_21 : decode cX6_oweDebtsAgain 21 = .ok (.astore_n 2, 1) := by decide +kernel
theorem dX6_oweDebtsAgain_22 : decode cX6_oweDebtsAgain 22 = .ok (.iconst 0, 1) := by decide +kernel
theorem dX6_oweDebtsAgain_23 : decode cX6_oweDebtsAgain 23 = .ok (.istore_n 3, 1) := by decide +kernel
theorem dX6_oweDebtsAgain_24 : decode cX6_oweDebtsAgain 24 = .ok (.iload_n 3, 1) := by decide +kernel
theorem dX6_oweDebtsAgain_25 : decode cX6_oweDebtsAgain 25 = .ok (.aload_n 2, 1) := by decide +kernel
theorem dX6_oweDebtsAgain_26 : decode cX6_oweDebtsAgain 26 = .ok (.getfield 286, 3) := by decide +kernel
theorem dX6_oweDebtsAgain_29 : decode cX6_oweDebtsAgain 29 = .ok (.if_icmp .ge 39, 3) := by decide +kernel
theorem dX6_oweDebtsAgain_32 : decode cX6_oweDebtsAgain 32 = .ok (.iload_n 3, 1) := by decide +kernel
theorem dX6_oweDebtsAgain_33 : decode cX6_oweDebtsAgain 33 = .ok (.iconst 4, 1) := by decide +kernel
theorem dX6_oweDebtsAgain_34 : decode cX6_oweDebtsAgain 34 = .ok (.if_icmp .ge 34, 3) := by decide +kernel
theorem dX6_oweDebtsAgain_37 : decode cX6_oweDebtsAgain 37 = .ok (.aload_n 2, 1) := by decide +kernel
theorem dX6_oweDebtsAgain_38 : decode cX6_oweDebtsAgain 38 = .ok (.getfield 289, 3) := by decide +kernel
theorem dX6_oweDebtsAgain_41 : decode cX6_oweDebtsAgain 41 = .ok (.iload_n 3, 1) := by decide +kernel
theorem dX6_oweDebtsAgain_42 : decode cX6_oweDebtsAgain 42 = .ok (.iaload, 1) := by decide +kernel
theorem dX6_oweDebtsAgain_43 : decode cX6_oweDebtsAgain 43 = .ok (.iconst 1, 1) := by decide +kernel
theorem dX6_oweDebtsAgain_44 : decode cX6_oweDebtsAgain 44 = .ok (.if_icmp .ne 18, 3) := by decide +kernel
theorem dX6_oweDebtsAgain_47 : decode cX6_oweDebtsAgain 47 = .ok (.aload_n 2, 1) := by decide +kernel
theorem dX6_oweDebtsAgain_48 : decode cX6_oweDebtsAgain 48 = .ok (.getfield 292, 3) := by decide +kernel
theorem dX6_oweDebtsAgain_51 : decode cX6_oweDebtsAgain 51 = .ok (.iload_n 3, 1) := by decide +kernel
theorem dX6_oweDebtsAgain_52 : decode cX6_oweDebtsAgain 52 = .ok (.dup2, 1) := by decide +kernel
theorem dX6_oweDebtsAgain_53 : decode cX6_oweDebtsAgain 53 = .ok (.laload, 1) := by decide +kernel
theorem dX6_oweDebtsAgain_54 : decode cX6_oweDebtsAgain 54 = .ok (.aload_n 1, 1) := by decide +kernel
theorem dX6_oweDebtsAgain_55 : decode cX6_oweDebtsAgain 55 = .ok (.getfield 299, 3) := by decide +kernel
theorem dX6_oweDebtsAgain_58 : decode cX6_oweDebtsAgain 58 = .ok (.iload_n 3, 1) := by decide +kernel
theorem dX6_oweDebtsAgain_59 : decode cX6_oweDebtsAgain 59 = .ok (.laload, 1) := by decide +kernel
theorem dX6_oweDebtsAgain_60 : decode cX6_oweDebtsAgain 60 = .ok (.ladd, 1) := by decide +kernel
theorem dX6_oweDebtsAgain_61 : decode cX6_oweDebtsAgain 61 = .ok (.lastore, 1) := by decide +kernel
theorem dX6_oweDebtsAgain_62 : decode cX6_oweDebtsAgain 62 = .ok (.iinc 3 1, 3) := by decide +kernel
theorem dX6_oweDebtsAgain_65 : decode cX6_oweDebtsAgain 65 = .ok (.goto (-41), 3) := by decide +kernel
theorem dX6_oweDebtsAgain_68 : decode cX6_oweDebtsAgain 68 = .ok (.return_, 1) := by decide +kernel
theorem dX6_pay_0 : decode cX6_pay 0 = .ok (.aload_n 0, 1) := by decide +kernel
theorem dX6_pay_1 : decode cX6_pay 1 = .ok (.iload_n 1, 1) := by decide +kernel
theorem dX6_pay_2 : decode cX6_pay 2 = .ok (.iload_n 2, 1) := by decide +kernel
theorem dX6_pay_3 : decode cX6_pay 3 = .ok (.invokevirtual 305, 3) := by decide +kernel
theorem dX6_pay_6 : decode cX6_pay 6 = .ok (.astore 5, 2) := by decide +kernel
theorem dX6_pay_8 : decode cX6_pay 8 = .ok (.aload 5, 2) := by decide +kernel
theorem dX6_pay_10 : decode cX6_pay 10 = .ok (.ifnonnull 7, 3) := by decide +kernel
theorem dX6_pay_13 : decode cX6_pay 13 = .ok (.ldc2_w 309, 3) := by decide +kernel
theorem dX6_pay_16 : decode cX6_pay 16 = .ok (.lreturn, 1) := by decide +kernel
theorem dX6_pay_17 : decode cX6_pay 17 = .ok (.lload_n 3, 1) := by decide +kernel
theorem dX6_pay_18 : decode cX6_pay 18 = .ok (.lconst 1, 1) := by decide +kernel
theorem dX6_pay_19 : decode cX6_pay 19 = .ok (.lcmp, 1) := by decide +kernel
theorem dX6_pay_20 : decode cX6_pay 20 = .ok (.ifCond .lt 11, 3) := by decide +kernel
theorem dX6_pay_23 : decode cX6_pay 23 = .ok (.lload_n 3, 1) := by decide +kernel
theorem dX6_pay_24 : decode cX6_pay 24 = .ok (.ldc2_w 311, 3) := by decide +kernel
theorem dX6_pay_27 : decode cX6_pay 27 = .ok (.lcmp, 1) := by decide +kernel
theorem dX6_pay_28 : decode cX6_pay 28 = .ok (.ifCond .le 7, 3) := by decide +kernel
theorem dX6_pay_31 : decode cX6_pay 31 = .ok (.ldc2_w 313, 3) := by decide +kernel
theorem dX6_pay_34 : decode cX6_pay 34 = .ok (.lreturn, 1) := by decide +kernel
theorem dX6_pay_35 : decode cX6_pay 35 = .ok (.aload 5, 2) := by decide +kernel
theorem dX6_pay_37 : decode cX6_pay 37 = .ok (.getfield 154, 3) := by decide +kernel
theorem dX6_pay_40 : decode cX6_pay 40 = .ok (.iconst 4, 1) := by decide +kernel
theorem dX6_pay_41 : decode cX6_pay 41 = .ok (.if_icmp .eq 7, 3) := by decide +kernel
theorem dX6_pay_44 : decode cX6_pay 44 = .ok (.ldc2_w 183, 3) := by decide +kernel
theorem dX6_pay_47 : decode cX6_pay 47 = .ok (.lreturn, 1) := by decide +kernel
theorem dX6_pay_48 : decode cX6_pay 48 = .ok (.aload 5, 2) := by decide +kernel
theorem dX6_pay_50 : decode cX6_pay 50 = .ok (.lload_n 3, 1) := by decide +kernel
theorem dX6_pay_51 : decode cX6_pay 51 = .ok (.aload_n 0, 1) := by decide +kernel
theorem dX6_pay_52 : decode cX6_pay 52 = .ok (.getfield 121, 3) := by decide +kernel
theorem dX6_pay_55 : decode cX6_pay 55 = .ok (.invokevirtual 315, 3) := by decide +kernel
theorem dX6_pay_58 : decode cX6_pay 58 = .ok (.lreturn, 1) := by decide +kernel
theorem dX6_told_0 : decode cX6_told 0 = .ok (.aload_n 0, 1) := by decide +kernel
theorem dX6_told_1 : decode cX6_told 1 = .ok (.iload_n 1, 1) := by decide +kernel
theorem dX6_told_2 : decode cX6_told 2 = .ok (.iload_n 2, 1) := by decide +kernel
theorem dX6_told_3 : decode cX6_told 3 = .ok (.invokevirtual 305, 3) := by decide +kernel
theorem dX6_told_6 : decode cX6_told 6 = .ok (.astore 4, 2) := by decide +kernel
theorem dX6_told_8 : decode cX6_told 8 = .ok (.aload 4, 2) := by decide +kernel
theorem dX6_told_10 : decode cX6_told 10 = .ok (.ifnonnull 7, 3) := by decide +kernel
theorem dX6_told_13 : decode cX6_told 13 = .ok (.ldc2_w 309, 3) := by decide +kernel
theorem dX6_told_16 : decode cX6_told 16 = .ok (.lreturn, 1) := by decide +kernel
theorem dX6_told_17 : decode cX6_told 17 = .ok (.iload_n 3, 1) := by decide +kernel
theorem dX6_told_18 : decode cX6_told 18 = .ok (.ifCond .lt 9, 3) := by decide +kernel
theorem dX6_told_21 : decode cX6_told 21 = .ok (.iload_n 3, 1) := by decide +kernel
theorem dX6_told_22 : decode cX6_told 22 = .ok (.bipush 14, 2) := by decide +kernel
theorem dX6_told_24 : decode cX6_told 24 = .ok (.if_icmp .lt 7, 3) := by decide +kernel
theorem dX6_told_27 : decode cX6_told 27 = .ok (.ldc2_w 313, 3) := by decide +kernel
theorem dX6_told_30 : decode cX6_told 30 = .ok (.lreturn, 1) := by decide +kernel
theorem dX6_told_31 : decode cX6_told 31 = .ok (.aload 4, 2) := by decide +kernel
theorem dX6_told_33 : decode cX6_told 33 = .ok (.iload_n 3, 1) := by decide +kernel
theorem dX6_told_34 : decode cX6_told 34 = .ok (.aload_n 0, 1) := by decide +kernel
theorem dX6_told_35 : decode cX6_told 35 = .ok (.getfield 121, 3) := by decide +kernel
theorem dX6_told_38 : decode cX6_told 38 = .ok (.invokevirtual 319, 3) := by decide +kernel
theorem dX6_told_41 : decode cX6_told 41 = .ok (.lreturn, 1) := by decide +kernel
theorem dX6_gets_0 : decode cX6_gets 0 = .ok (.aload_n 0, 1) := by decide +kernel
theorem dX6_gets_1 : decode cX6_gets 1 = .ok (.iload_n 1, 1) := by decide +kernel
theorem dX6_gets_2 : decode cX6_gets 2 = .ok (.iload_n 2, 1) := by decide +kernel
theorem dX6_gets_3 : decode cX6_gets 3 = .ok (.invokevirtual 305, 3) := by decide +kernel
theorem dX6_gets_6 : decode cX6_gets 6 = .ok (.astore 4, 2) := by decide +kernel
theorem dX6_gets_8 : decode cX6_gets 8 = .ok (.aload 4, 2) := by decide +kernel
theorem dX6_gets_10 : decode cX6_gets 10 = .ok (.ifnull 15, 3) := by decide +kernel
theorem dX6_gets_13 : decode cX6_gets 13 = .ok (.aload_n 0, 1) := by decide +kernel
theorem dX6_gets_14 : decode cX6_gets 14 = .ok (.aload 4, 2) := by decide +kernel
theorem dX6_gets_16 : decode cX6_gets 16 = .ok (.getfield 212, 3) := by decide +kernel
theorem dX6_gets_19 : decode cX6_gets 19 = .ok (.invokevirtual 69, 3) := by decide +kernel
theorem dX6_gets_22 : decode cX6_gets 22 = .ok (.ifCond .ne 7, 3) := by decide +kernel
theorem dX6_gets_25 : decode cX6_gets 25 = .ok (.ldc2_w 309, 3) := by decide +kernel
theorem dX6_gets_28 : decode cX6_gets 28 = .ok (.lreturn, 1) := by decide +kernel
theorem dX6_gets_29 : decode cX6_gets 29 = .ok (.iload_n 3, 1) := by decide +kernel
theorem dX6_gets_30 : decode cX6_gets 30 = .ok (.ifCond .lt 25, 3) := by decide +kernel
theorem dX6_gets_33 : decode cX6_gets 33 = .ok (.iload_n 3, 1) := by decide +kernel
theorem dX6_gets_34 : decode cX6_gets 34 = .ok (.aload_n 0, 1) := by decide +kernel
theorem dX6_gets_35 : decode cX6_gets 35 = .ok (.getfield 25, 3) := by decide +kernel
theorem dX6_gets_38 : decode cX6_gets 38 = .ok (.aload 4, 2) := by decide +kernel
theorem dX6_gets_40 : decode cX6_gets 40 = .ok (.getfield 212, 3) := by decide +kernel
theorem dX6_gets_43 : decode cX6_gets 43 = .ok (.aaload, 1) := by decide +kernel
theorem dX6_gets_44 : decode cX6_gets 44 = .ok (.getfield 286, 3) := by decide +kernel
theorem dX6_gets_47 : decode cX6_gets 47 = .ok (.if_icmp .ge 8, 3) := by decide +kernel
theorem dX6_gets_50 : decode cX6_gets 50 = .ok (.iload_n 3, 1) := by decide +kernel
theorem dX6_gets_51 : decode cX6_gets 51 = .ok (.iconst 4, 1) := by decide +kernel
theorem dX6_gets_52 : decode cX6_gets 52 = .ok (.if_icmp .lt 7, 3) := by decide +kernel
theorem dX6_gets_55 : decode cX6_gets 55 = .ok (.ldc2_w 309, 3) := by decide +kernel
theorem dX6_gets_58 : decode cX6_gets 58 = .ok (.lreturn, 1) := by decide +kernel
theorem dX6_gets_59 : decode cX6_gets 59 = .ok (.aload 4, 2) := by decide +kernel
theorem dX6_gets_61 : decode cX6_gets 61 = .ok (.getfield 299, 3) := by decide +kernel
theorem dX6_gets_64 : decode cX6_gets 64 = .ok (.iload_n 3, 1) := by decide +kernel
theorem dX6_gets_65 : decode cX6_gets 65 = .ok (.laload, 1) := by decide +kernel
theorem dX6_gets_66 : decode cX6_gets 66 = .ok (.lreturn, 1) := by decide +kernel
theorem dX6_look_0 : decode cX6_look 0 = .ok (.aload_n 0, 1) := by decide +kernel
theorem dX6_look_1 : decode cX6_look 1 = .ok (.getfield 12, 3) := by decide +kernel
theorem dX6_look_4 : decode cX6_look 4 = .ok (.iload_n 1, 1) := by decide +kernel
theorem dX6_look_5 : decode cX6_look 5 = .ok (.iload_n 2, 1) := by decide +kernel
theorem dX6_look_6 : decode cX6_look 6 = .ok (.invokevirtual 65, 3) := by decide +kernel
theorem dX6_look_9 : decode cX6_look 9 = .ok (.istore 4, 2) := by decide +kernel
theorem dX6_look_11 : decode cX6_look 11 = .ok (.iload 4, 2) := by decide +kernel
theorem dX6_look_13 : decode cX6_look 13 = .ok (.iconst (-1), 1) := by decide +kernel
theorem dX6_look_14 : decode cX6_look 14 = .ok (.if_icmp .ne 6, 3) := by decide +kernel
theorem dX6_look_17 : decode cX6_look 17 = .ok (.bipush (-101), 2) := by decide +kernel
theorem dX6_look_19 : decode cX6_look 19 = .ok (.ireturn, 1) := by decide +kernel
theorem dX6_look_20 : decode cX6_look 20 = .ok (.iload_n 3, 1) := by decide +kernel
theorem dX6_look_21 : decode cX6_look 21 = .ok (.tableswitch 113 0 4 #[35, 46, 57, 76, 94], 35) := by decide +kernel
theorem dX6_look_56 : decode cX6_look 56 = .ok (.aload_n 0, 1) := by decide +kernel
theorem dX6_look_57 : decode cX6_look 57 = .ok (.getfield 12, 3) := by decide +kernel
theorem dX6_look_60 : decode cX6_look 60 = .ok (.getfield 80, 3) := by decide +kernel
theorem dX6_look_63 : decode cX6_look 63 = .ok (.iload 4, 2) := by decide +kernel
theorem dX6_look_65 : decode cX6_look 65 = .ok (.iaload, 1) := by decide +kernel
theorem dX6_look_66 : decode cX6_look 66 = .ok (.ireturn, 1) := by decide +kernel
theorem dX6_look_67 : decode cX6_look 67 = .ok (.aload_n 0, 1) := by decide +kernel
theorem dX6_look_68 : decode cX6_look 68 = .ok (.getfield 12, 3) := by decide +kernel
theorem dX6_look_71 : decode cX6_look 71 = .ok (.getfield 83, 3) := by decide +kernel
theorem dX6_look_74 : decode cX6_look 74 = .ok (.iload 4, 2) := by decide +kernel
theorem dX6_look_76 : decode cX6_look 76 = .ok (.iaload, 1) := by decide +kernel
theorem dX6_look_77 : decode cX6_look 77 = .ok (.ireturn, 1) := by decide +kernel
theorem dX6_look_78 : decode cX6_look 78 = .ok (.aload_n 0, 1) := by decide +kernel
theorem dX6_look_79 : decode cX6_look 79 = .ok (.getfield 12, 3) := by decide +kernel
theorem dX6_look_82 : decode cX6_look 82 = .ok (.getfield 86, 3) := by decide +kernel
theorem dX6_look_85 : decode cX6_look 85 = .ok (.iload 4, 2) := by decide +kernel
theorem dX6_look_87 : decode cX6_look 87 = .ok (.baload, 1) := by decide +kernel
theorem dX6_look_88 : decode cX6_look 88 = .ok (.ifCond .eq 7, 3) := by decide +kernel
theorem dX6_look_91 : decode cX6_look 91 = .ok (.iconst 1, 1) := by decide +kernel
theorem dX6_look_92 : decode cX6_look 92 = .ok (.goto 4, 3) := by decide +kernel
theorem dX6_look_95 : decode cX6_look 95 = .ok (.iconst 0, 1) := by decide +kernel
theorem dX6_look_96 : decode cX6_look 96 = .ok (.ireturn, 1) := by decide +kernel
theorem dX6_look_97 : decode cX6_look 97 = .ok (.aload_n 0, 1) := by decide +kernel
theorem dX6_look_98 : decode cX6_look 98 = .ok (.getfield 12, 3) := by decide +kernel
theorem dX6_look_101 : decode cX6_look 101 = .ok (.iload 4, 2) := by decide +kernel
theorem dX6_look_103 : decode cX6_look 103 = .ok (.invokevirtual 128, 3) := by decide +kernel
theorem dX6_look_106 : decode cX6_look 106 = .ok (.ifCond .eq 7, 3) := by decide +kernel
theorem dX6_look_109 : decode cX6_look 109 = .ok (.iconst 1, 1) := by decide +kernel
theorem dX6_look_110 : decode cX6_look 110 = .ok (.goto 4, 3) := by decide +kernel
theorem dX6_look_113 : decode cX6_look 113 = .ok (.iconst 0, 1) := by decide +kernel
theorem dX6_look_114 : decode cX6_look 114 = .ok (.ireturn, 1) := by decide +kernel
theorem dX6_look_115 : decode cX6_look 115 = .ok (.aload_n 0, 1) := by decide +kernel
theorem dX6_look_116 : decode cX6_look 116 = .ok (.getfield 12, 3) := by decide +kernel
theorem dX6_look_119 : decode cX6_look 119 = .ok (.getfield 131, 3) := by decide +kernel
theorem dX6_look_122 : decode cX6_look 122 = .ok (.iload 4, 2) := by decide +kernel
theorem dX6_look_124 : decode cX6_look 124 = .ok (.baload, 1) := by decide +kernel
theorem dX6_look_125 : decode cX6_look 125 = .ok (.ifCond .eq 7, 3) := by decide +kernel
theorem dX6_look_128 : decode cX6_look 128 = .ok (.iconst 1, 1) := by decide +kernel
theorem dX6_look_129 : decode cX6_look 129 = .ok (.goto 4, 3) := by decide +kernel
theorem dX6_look_132 : decode cX6_look 132 = .ok (.iconst 0, 1) := by decide +kernel
theorem dX6_look_133 : decode cX6_look 133 = .ok (.ireturn, 1) := by decide +kernel
theorem dX6_look_134 : decode cX6_look 134 = .ok (.bipush (-102), 2) := by decide +kernel
theorem dX6_look_136 : decode cX6_look 136 = .ok (.ireturn, 1) := by decide +kernel
theorem dX6_pieces_0 : decode cX6_pieces 0 = .ok (.aload_n 0, 1) := by decide +kernel
theorem dX6_pieces_1 : decode cX6_pieces 1 = .ok (.iload_n 1, 1) := by decide +kernel
theorem dX6_pieces_2 : decode cX6_pieces 2 = .ok (.invokevirtual 69, 3) := by decide +kernel
theorem dX6_pieces_5 : decode cX6_pieces 5 = .ok (.ifCond .ne 6, 3) := by decide +kernel
theorem dX6_pieces_8 : decode cX6_pieces 8 = .ok (.bipush (-101), 2) := by decide +kernel
theorem dX6_pieces_10 : decode cX6_pieces 10 = .ok (.ireturn, 1) := by decide +kernel
theorem dX6_pieces_11 : decode cX6_pieces 11 = .ok (.aload_n 0, 1) := by decide +kernel
theorem dX6_pieces_12 : decode cX6_pieces 12 = .ok (.getfield 19, 3) := by decide +kernel
theorem dX6_pieces_15 : decode cX6_pieces 15 = .ok (.aload_n 0, 1) := by decide +kernel
theorem dX6_pieces_16 : decode cX6_pieces 16 = .ok (.getfield 12, 3) := by decide +kernel
theorem dX6_pieces_19 : decode cX6_pieces 19 = .ok (.iload_n 1, 1) := by decide +kernel
theorem dX6_pieces_20 : decode cX6_pieces 20 = .ok (.aload_n 0, 1) := by decide +kernel
theorem dX6_pieces_21 : decode cX6_pieces 21 = .ok (.getfield 25, 3) := by decide +kernel
theorem dX6_pieces_24 : decode cX6_pieces 24 = .ok (.iload_n 1, 1) := by decide +kernel
theorem dX6_pieces_25 : decode cX6_pieces 25 = .ok (.aaload, 1) := by decide +kernel
theorem dX6_pieces_26 : decode cX6_pieces 26 = .ok (.getfield 90, 3) := by decide +kernel
theorem dX6_pieces_29 : decode cX6_pieces 29 = .ok (.invokevirtual 225, 3) := by decide +kernel
theorem dX6_pieces_32 : decode cX6_pieces 32 = .ok (.aload_n 0, 1) := by decide +kernel
theorem dX6_pieces_33 : decode cX6_pieces 33 = .ok (.getfield 19, 3) := by decide +kernel
theorem dX6_pieces_36 : decode cX6_pieces 36 = .ok (.getfield 280, 3) := by decide +kernel
theorem dX6_pieces_39 : decode cX6_pieces 39 = .ok (.ireturn, 1) := by decide +kernel
theorem dX6_piece_0 : decode cX6_piece 0 = .ok (.aload_n 0, 1) := by decide +kernel
theorem dX6_piece_1 : decode cX6_piece 1 = .ok (.iload_n 1, 1) := by decide +kernel
theorem dX6_piece_2 : decode cX6_piece 2 = .ok (.invokevirtual 69, 3) := by decide +kernel
theorem dX6_piece_5 : decode cX6_piece 5 = .ok (.ifCond .ne 6, 3) := by decide +kernel
theorem dX6_piece_8 : decode cX6_piece 8 = .ok (.bipush (-101), 2) := by decide +kernel
theorem dX6_piece_10 : decode cX6_piece 10 = .ok (.ireturn, 1) := by decide +kernel
theorem dX6_piece_11 : decode cX6_piece 11 = .ok (.aload_n 0, 1) := by decide +kernel
theorem dX6_piece_12 : decode cX6_piece 12 = .ok (.getfield 19, 3) := by decide +kernel
theorem dX6_piece_15 : decode cX6_piece 15 = .ok (.aload_n 0, 1) := by decide +kernel
theorem dX6_piece_16 : decode cX6_piece 16 = .ok (.getfield 12, 3) := by decide +kernel
theorem dX6_piece_19 : decode cX6_piece 19 = .ok (.iload_n 1, 1) := by decide +kernel
theorem dX6_piece_20 : decode cX6_piece 20 = .ok (.aload_n 0, 1) := by decide +kernel
theorem dX6_piece_21 : decode cX6_piece 21 = .ok (.getfield 25, 3) := by decide +kernel
theorem dX6_piece_24 : decode cX6_piece 24 = .ok (.iload_n 1, 1) := by decide +kernel
theorem dX6_piece_25 : decode cX6_piece 25 = .ok (.aaload, 1) := by decide +kernel
theorem dX6_piece_26 : decode cX6_piece 26 = .ok (.getfield 90, 3) := by decide +kernel
theorem dX6_piece_29 : decode cX6_piece 29 = .ok (.invokevirtual 225, 3) := by decide +kernel
theorem dX6_piece_32 : decode cX6_piece 32 = .ok (.iload_n 2, 1) := by decide +kernel
theorem dX6_piece_33 : decode cX6_piece 33 = .ok (.ifCond .lt 14, 3) := by decide +kernel
theorem dX6_piece_36 : decode cX6_piece 36 = .ok (.iload_n 2, 1) := by decide +kernel
theorem dX6_piece_37 : decode cX6_piece 37 = .ok (.aload_n 0, 1) := by decide +kernel
theorem dX6_piece_38 : decode cX6_piece 38 = .ok (.getfield 19, 3) := by decide +kernel
theorem dX6_piece_41 : decode cX6_piece 41 = .ok (.getfield 280, 3) := by decide +kernel
theorem dX6_piece_44 : decode cX6_piece 44 = .ok (.if_icmp .lt 6, 3) := by decide +kernel
theorem dX6_piece_47 : decode cX6_piece 47 = .ok (.bipush (-101), 2) := by decide +kernel
theorem dX6_piece_49 : decode cX6_piece 49 = .ok (.ireturn, 1) := by decide +kernel
theorem dX6_piece_50 : decode cX6_piece 50 = .ok (.iload_n 3, 1) := by decide +kernel
theorem dX6_piece_51 : decode cX6_piece 51 = .ok (.ifCond .lt 8, 3) := by decide +kernel
theorem dX6_piece_54 : decode cX6_piece 54 = .ok (.iload_n 3, 1) := by decide +kernel
theorem dX6_piece_55 : decode cX6_piece 55 = .ok (.iconst 4, 1) := by decide +kernel
theorem dX6_piece_56 : decode cX6_piece 56 = .ok (.if_icmp .lt 6, 3) := by decide +kernel
theorem dX6_piece_59 : decode cX6_piece 59 = .ok (.bipush (-102), 2) := by decide +kernel
theorem dX6_piece_61 : decode cX6_piece 61 = .ok (.ireturn, 1) := by decide +kernel
theorem dX6_piece_62 : decode cX6_piece 62 = .ok (.aload_n 0, 1) := by decide +kernel
theorem dX6_piece_63 : decode cX6_piece 63 = .ok (.getfield 19, 3) := by decide +kernel
theorem dX6_piece_66 : decode cX6_piece 66 = .ok (.iload_n 2, 1) := by decide +kernel
theorem dX6_piece_67 : decode cX6_piece 67 = .ok (.iload_n 3, 1) := by decide +kernel
theorem dX6_piece_68 : decode cX6_piece 68 = .ok (.invokevirtual 323, 3) := by decide +kernel
theorem dX6_piece_71 : decode cX6_piece 71 = .ok (.ireturn, 1) := by decide +kernel
theorem dX6_count_0 : decode cX6_count 0 = .ok (.iload_n 1, 1) := by decide +kernel
theorem dX6_count_1 : decode cX6_count 1 = .ok (.tableswitch 101 0 7 #[47, 52, 60, 68, 73, 78, 83, 96], 47) := by decide +kernel
theorem dX6_count_48 : decode cX6_count 48 = .ok (.aload_n 0, 1) := by decide +kernel
theorem dX6_count_49 : decode cX6_count 49 = .ok (.getfield 58, 3) := by decide +kernel
theorem dX6_count_52 : decode cX6_count 52 = .ok (.ireturn, 1) := by decide +kernel
theorem dX6_count_53 : decode cX6_count 53 = .ok (.aload_n 0, 1) := by decide +kernel
theorem dX6_count_54 : decode cX6_count 54 = .ok (.getfield 12, 3) := by decide +kernel
theorem dX6_count_57 : decode cX6_count 57 = .ok (.invokevirtual 325, 3) := by decide +kernel
theorem dX6_count_60 : decode cX6_count 60 = .ok (.ireturn, 1) := by decide +kernel
theorem dX6_count_61 : decode cX6_count 61 = .ok (.aload_n 0, 1) := by decide +kernel
theorem dX6_count_62 : decode cX6_count 62 = .ok (.getfield 12, 3) := by decide +kernel
theorem dX6_count_65 : decode cX6_count 65 = .ok (.invokevirtual 328, 3) := by decide +kernel
theorem dX6_count_68 : decode cX6_count 68 = .ok (.ireturn, 1) := by decide +kernel
theorem dX6_count_69 : decode cX6_count 69 = .ok (.aload_n 0, 1) := by decide +kernel
theorem dX6_count_70 : decode cX6_count 70 = .ok (.getfield 100, 3) := by decide +kernel
theorem dX6_count_73 : decode cX6_count 73 = .ok (.ireturn, 1) := by decide +kernel
theorem dX6_count_74 : decode cX6_count 74 = .ok (.aload_n 0, 1) := by decide +kernel
theorem dX6_count_75 : decode cX6_count 75 = .ok (.invokevirtual 331, 3) := by decide +kernel
theorem dX6_count_78 : decode cX6_count 78 = .ok (.ireturn, 1) := by decide +kernel
theorem dX6_count_79 : decode cX6_count 79 = .ok (.aload_n 0, 1) := by decide +kernel
theorem dX6_count_80 : decode cX6_count 80 = .ok (.getfield 121, 3) := by decide +kernel
theorem dX6_count_83 : decode cX6_count 83 = .ok (.ireturn, 1) := by decide +kernel
theorem dX6_count_84 : decode cX6_count 84 = .ok (.aload_n 0, 1) := by decide +kernel
theorem dX6_count_85 : decode cX6_count 85 = .ok (.invokevirtual 124, 3) := by decide +kernel
theorem dX6_count_88 : decode cX6_count 88 = .ok (.ifnonnull 7, 3) := by decide +kernel
theorem dX6_count_91 : decode cX6_count 91 = .ok (.iconst 0, 1) := by decide +kernel
theorem dX6_count_92 : decode cX6_count 92 = .ok (.goto 4, 3) := by decide +kernel
theorem dX6_count_95 : decode cX6_count 95 = .ok (.iconst 1, 1) := by decide +kernel
theorem dX6_count_96 : decode cX6_count 96 = .ok (.ireturn, 1) := by decide +kernel
theorem dX6_count_97 : decode cX6_count 97 = .ok (.aload_n 0, 1) := by decide +kernel
theorem dX6_count_98 : decode cX6_count 98 = .ok (.getfield 103, 3) := by decide +kernel
theorem dX6_count_101 : decode cX6_count 101 = .ok (.ireturn, 1) := by decide +kernel
theorem dX6_count_102 : decode cX6_count 102 = .ok (.bipush (-102), 2) := by decide +kernel
theorem dX6_count_104 : decode cX6_count 104 = .ok (.ireturn, 1) := by decide +kernel
theorem dX6_digest_0 : decode cX6_digest 0 = .ok (.ldc2_w 334, 3) := by decide +kernel
theorem dX6_digest_3 : decode cX6_digest 3 = .ok (.lstore_n 1, 1) := by decide +kernel
theorem dX6_digest_4 : decode cX6_digest 4 = .ok (.lload_n 1, 1) := by decide +kernel
theorem dX6_digest_5 : decode cX6_digest 5 = .ok (.aload_n 0, 1) := by decide +kernel
theorem dX6_digest_6 : decode cX6_digest 6 = .ok (.getfield 12, 3) := by decide +kernel
theorem dX6_digest_9 : decode cX6_digest 9 = .ok (.getfield 336, 3) := by decide +kernel
theorem dX6_digest_12 : decode cX6_digest 12 = .ok (.i2l, 1) := by decide +kernel
theorem dX6_digest_13 : decode cX6_digest 13 = .ok (.invokestatic 339, 3) := by decide +kernel
theorem dX6_digest_16 : decode cX6_digest 16 = .ok (.lstore_n 1, 1) := by decide +kernel
theorem dX6_digest_17 : decode cX6_digest 17 = .ok (.lload_n 1, 1) := by decide +kernel
theorem dX6_digest_18 : decode cX6_digest 18 = .ok (.aload_n 0, 1) := by decide +kernel
theorem dX6_digest_19 : decode cX6_digest 19 = .ok (.getfield 12, 3) := by decide +kernel
theorem dX6_digest_22 : decode cX6_digest 22 = .ok (.getfield 342, 3) := by decide +kernel
theorem dX6_digest_25 : decode cX6_digest 25 = .ok (.i2l, 1) := by decide +kernel
theorem dX6_digest_26 : decode cX6_digest 26 = .ok (.invokestatic 339, 3) := by decide +kernel
theorem dX6_digest_29 : decode cX6_digest 29 = .ok (.lstore_n 1, 1) := by decide +kernel
theorem dX6_digest_30 : decode cX6_digest 30 = .ok (.aload_n 0, 1) := by decide +kernel
theorem dX6_digest_31 : decode cX6_digest 31 = .ok (.lload_n 1, 1) := by decide +kernel
theorem dX6_digest_32 : decode cX6_digest 32 = .ok (.invokevirtual 345, 3) := by decide +kernel
theorem dX6_digest_35 : decode cX6_digest 35 = .ok (.lstore_n 1, 1) := by decide +kernel
theorem dX6_digest_36 : decode cX6_digest 36 = .ok (.aload_n 0, 1) := by decide +kernel
theorem dX6_digest_37 : decode cX6_digest 37 = .ok (.lload_n 1, 1) := by decide +kernel
theorem dX6_digest_38 : decode cX6_digest 38 = .ok (.invokevirtual 349, 3) := by decide +kernel
theorem dX6_digest_41 : decode cX6_digest 41 = .ok (.lstore_n 1, 1) := by decide +kernel
theorem dX6_digest_42 : decode cX6_digest 42 = .ok (.aload_n 0, 1) := by decide +kernel
theorem dX6_digest_43 : decode cX6_digest 43 = .ok (.lload_n 1, 1) := by decide +kernel
theorem dX6_digest_44 : decode cX6_digest 44 = .ok (.invokevirtual 352, 3) := by decide +kernel
theorem dX6_digest_47 : decode cX6_digest 47 = .ok (.lstore_n 1, 1) := by decide +kernel
theorem dX6_digest_48 : decode cX6_digest 48 = .ok (.iconst 0, 1) := by decide +kernel
theorem dX6_digest_49 : decode cX6_digest 49 = .ok (.istore_n 3, 1) := by decide +kernel
theorem dX6_digest_50 : decode cX6_digest 50 = .ok (.iload_n 3, 1) := by decide +kernel
theorem dX6_digest_51 : decode cX6_digest 51 = .ok (.iconst 5, 1) := by decide +kernel
theorem dX6_digest_52 : decode cX6_digest 52 = .ok (.if_icmp .ge 21, 3) := by decide +kernel
theorem dX6_digest_55 : decode cX6_digest 55 = .ok (.lload_n 1, 1) := by decide +kernel
theorem dX6_digest_56 : decode cX6_digest 56 = .ok (.aload_n 0, 1) := by decide +kernel
theorem dX6_digest_57 : decode cX6_digest 57 = .ok (.getfield 41, 3) := by decide +kernel
theorem dX6_digest_60 : decode cX6_digest 60 = .ok (.iload_n 3, 1) := by decide +kernel
theorem dX6_digest_61 : decode cX6_digest 61 = .ok (.iaload, 1) := by decide +kernel
theorem dX6_digest_62 : decode cX6_digest 62 = .ok (.i2l, 1) := by decide +kernel
theorem dX6_digest_63 : decode cX6_digest 63 = .ok (.invokestatic 339, 3) := by decide +kernel
theorem dX6_digest_66 : decode cX6_digest 66 = .ok (.lstore_n 1, 1) := by decide +kernel
theorem dX6_digest_67 : decode cX6_digest 67 = .ok (.iinc 3 1, 3) := by decide +kernel
theorem dX6_digest_70 : decode cX6_digest 70 = .ok (.goto (-20), 3) := by decide +kernel
theorem dX6_digest_73 : decode cX6_digest 73 = .ok (.iconst 5, 1) := by decide +kernel
theorem dX6_digest_74 : decode cX6_digest 74 = .ok (.istore_n 3, 1) := by decide +kernel
theorem dX6_digest_75 : decode cX6_digest 75 = .ok (.iload_n 3, 1) := by decide +kernel
theorem dX6_digest_76 : decode cX6_digest 76 = .ok (.bipush 8, 2) := by decide +kernel
theorem dX6_digest_78 : decode cX6_digest 78 = .ok (.if_icmp .ge 20, 3) := by decide +kernel
theorem dX6_digest_81 : decode cX6_digest 81 = .ok (.lload_n 1, 1) := by decide +kernel
theorem dX6_digest_82 : decode cX6_digest 82 = .ok (.aload_n 0, 1) := by decide +kernel
theorem dX6_digest_83 : decode cX6_digest 83 = .ok (.iload_n 3, 1) := by decide +kernel
theorem dX6_digest_84 : decode cX6_digest 84 = .ok (.invokevirtual 355, 3) := by decide +kernel
theorem dX6_digest_87 : decode cX6_digest 87 = .ok (.i2l, 1) := by decide +kernel
theorem dX6_digest_88 : decode cX6_digest 88 = .ok (.invokestatic 339, 3) := by decide +kernel
theorem dX6_digest_91 : decode cX6_digest 91 = .ok (.lstore_n 1, 1) := by decide +kernel
theorem dX6_digest_92 : decode cX6_digest 92 = .ok (.iinc 3 1, 3) := by decide +kernel
theorem dX6_digest_95 : decode cX6_digest 95 = .ok (.goto (-20), 3) := by decide +kernel
theorem dX6_digest_98 : decode cX6_digest 98 = .ok (.lload_n 1, 1) := by decide +kernel
theorem dX6_digest_99 : decode cX6_digest 99 = .ok (.lreturn, 1) := by decide +kernel
theorem dX6_casesOfLatest_0 : decode cX6_casesOfLatest 0 = .ok (.aload_n 0, 1) := by decide +kernel
theorem dX6_casesOfLatest_1 : decode cX6_casesOfLatest 1 = .ok (.invokevirtual 177, 3) := by decide +kernel
theorem dX6_casesOfLatest_4 : decode cX6_casesOfLatest 4 = .ok (.astore_n 1, 1) := by decide +kernel
theorem dX6_casesOfLatest_5 : decode cX6_casesOfLatest 5 = .ok (.aload_n 1, 1) := by decide +kernel
theorem dX6_casesOfLatest_6 : decode cX6_casesOfLatest 6 = .ok (.ifnonnull 7, 3) := by decide +kernel
theorem dX6_casesOfLatest_9 : decode cX6_casesOfLatest 9 = .ok (.iconst 0, 1) := by decide +kernel
theorem dX6_casesOfLatest_10 : decode cX6_casesOfLatest 10 = .ok (.goto 7, 3) := by decide +kernel
theorem dX6_casesOfLatest_13 : decode cX6_casesOfLatest 13 = .ok (.aload_n 1, 1) := by decide +kernel
theorem dX6_casesOfLatest_14 : decode cX6_casesOfLatest 14 = .ok (.getfield 147, 3) := by decide +kernel
theorem dX6_casesOfLatest_17 : decode cX6_casesOfLatest 17 = .ok (.ireturn, 1) := by decide +kernel
theorem dX6_mixed_0 : decode cX6_mixed 0 = .ok (.ldc2_w 358, 3) := by decide +kernel
theorem dX6_mixed_3 : decode cX6_mixed 3 = .ok (.lload_n 0, 1) := by decide +kernel
theorem dX6_mixed_4 : decode cX6_mixed 4 = .ok (.lmul, 1) := by decide +kernel
theorem dX6_mixed_5 : decode cX6_mixed 5 = .ok (.lload_n 2, 1) := by decide +kernel
theorem dX6_mixed_6 : decode cX6_mixed 6 = .ok (.ladd, 1) := by decide +kernel
theorem dX6_mixed_7 : decode cX6_mixed 7 = .ok (.lreturn, 1) := by decide +kernel
theorem dX6_mixedCells_0 : decode cX6_mixedCells 0 = .ok (.lload_n 1, 1) := by decide +kernel
theorem dX6_mixedCells_1 : decode cX6_mixedCells 1 = .ok (.lstore_n 3, 1) := by decide +kernel
theorem dX6_mixedCells_2 : decode cX6_mixedCells 2 = .ok (.iconst 0, 1) := by decide +kernel
theorem dX6_mixedCells_3 : decode cX6_mixedCells 3 = .ok (.istore 5, 2) := by decide +kernel
theorem dX6_mixedCells_5 : decode cX6_mixedCells 5 = .ok (.iload 5, 2) := by decide +kernel
theorem dX6_mixedCells_7 : decode cX6_mixedCells 7 = .ok (.aload_n 0, 1) := by decide +kernel
theorem dX6_mixedCells_8 : decode cX6_mixedCells 8 = .ok (.getfield 12, 3) := by decide +kernel
theorem dX6_mixedCells_11 : decode cX6_mixedCells 11 = .ok (.getfield 342, 3) := by decide +kernel
theorem dX6_mixedCells_14 : decode cX6_mixedCells 14 = .ok (.if_icmp .ge 61, 3) := by decide +kernel
theorem dX6_mixedCells_17 : decode cX6_mixedCells 17 = .ok (.iconst 0, 1) := by decide +kernel
theorem dX6_mixedCells_18 : decode cX6_mixedCells 18 = .ok (.istore 6, 2) := by decide +kernel
theorem dX6_mixedCells_20 : decode cX6_mixedCells 20 = .ok (.iload 6, 2) := by decide +kernel
theorem dX6_mixedCells_22 : decode cX6_mixedCells 22 = .ok (.aload_n 0, 1) := by decide +kernel
theorem dX6_mixedCells_23 : decode cX6_mixedCells 23 = .ok (.getfield 12, 3) := by decide +kernel
theorem dX6_mixedCells_26 : decode cX6_mixedCells 26 = .ok (.getfield 336, 3) := by decide +kernel
theorem dX6_mixedCells_29 : decode cX6_mixedCells 29 = .ok (.if_icmp .ge 40, 3) := by decide +kernel
theorem dX6_mixedCells_32 : decode cX6_mixedCells 32 = .ok (.iconst 0, 1) := by decide +kernel
theorem dX6_mixedCells_33 : decode cX6_mixedCells 33 = .ok (.istore 7, 2) := by decide +kernel
theorem dX6_mixedCells_35 : decode cX6_mixedCells 35 = .ok (.iload 7, 2) := by decide +kernel
theorem dX6_mixedCells_37 : decode cX6_mixedCells 37 = .ok (.iconst 5, 1) := by decide +kernel
theorem dX6_mixedCells_38 : decode cX6_mixedCells 38 = .ok (.if_icmp .ge 25, 3) := by decide +kernel
theorem dX6_mixedCells_41 : decode cX6_mixedCells 41 = .ok (.lload_n 3, 1) := by decide +kernel
theorem dX6_mixedCells_42 : decode cX6_mixedCells 42 = .ok (.aload_n 0, 1) := by decide +kernel
theorem dX6_mixedCells_43 : decode cX6_mixedCells 43 = .ok (.iload 6, 2) := by decide +kernel
theorem dX6_mixedCells_45 : decode cX6_mixedCells 45 = .ok (.iload 5, 2) := by decide +kernel
theorem dX6_mixedCells_47 : decode cX6_mixedCells 47 = .ok (.iload 7, 2) := by decide +kernel
theorem dX6_mixedCells_49 : decode cX6_mixedCells 49 = .ok (.invokevirtual 360, 3) := by decide +kernel
theorem dX6_mixedCells_52 : decode cX6_mixedCells 52 = .ok (.i2l, 1) := by decide +kernel
theorem dX6_mixedCells_53 : decode cX6_mixedCells 53 = .ok (.invokestatic 339, 3) := by decide +kernel
theorem dX6_mixedCells_56 : decode cX6_mixedCells 56 = .ok (.lstore_n 3, 1) := by decide +kernel
theorem dX6_mixedCells_57 : decode cX6_mixedCells 57 = .ok (.iinc 7 1, 3) := by decide +kernel
theorem dX6_mixedCells_60 : decode cX6_mixedCells 60 = .ok (.goto (-25), 3) := by decide +kernel
theorem dX6_mixedCells_63 : decode cX6_mixedCells 63 = .ok (.iinc 6 1, 3) := by decide +kernel
theorem dX6_mixedCells_66 : decode cX6_mixedCells 66 = .ok (.goto (-46), 3) := by decide +kernel
theorem dX6_mixedCells_69 : decode cX6_mixedCells 69 = .ok (.iinc 5 1, 3) := by decide +kernel
theorem dX6_mixedCells_72 : decode cX6_mixedCells 72 = .ok (.goto (-67), 3) := by decide +kernel
theorem dX6_mixedCells_75 : decode cX6_mixedCells 75 = .ok (.lload_n 3, 1) := by decide +kernel
theorem dX6_mixedCells_76 : decode cX6_mixedCells 76 = .ok (.lreturn, 1) := by decide +kernel
theorem dX6_mixedFields_0 : decode cX6_mixedFields 0 = .ok (.lload_n 1, 1) := by decide +kernel
theorem dX6_mixedFields_1 : decode cX6_mixedFields 1 = .ok (.lstore_n 3, 1) := by decide +kernel
theorem dX6_mixedFields_2 : decode cX6_mixedFields 2 = .ok (.iconst 0, 1) := by decide +kernel
theorem dX6_mixedFields_3 : decode cX6_mixedFields 3 = .ok (.istore 5, 2) := by decide +kernel
theorem dX6_mixedFields_5 : decode cX6_mixedFields 5 = .ok (.iload 5, 2) := by decide +kernel
theorem dX6_mixedFields_7 : decode cX6_mixedFields 7 = .ok (.aload_n 0, 1) := by decide +kernel
theorem dX6_mixedFields_8 : decode cX6_mixedFields 8 = .ok (.getfield 58, 3) := by decide +kernel
theorem dX6_mixedFields_11 : decode cX6_mixedFields 11 = .ok (.if_icmp .ge 89, 3) := by decide +kernel
theorem dX6_mixedFields_14 : decode cX6_mixedFields 14 = .ok (.iload 5, 2) := by decide +kernel
theorem dX6_mixedFields_16 : decode cX6_mixedFields 16 = .ok (.bipush 12, 2) := by decide +kernel
theorem dX6_mixedFields_18 : decode cX6_mixedFields 18 = .ok (.if_icmp .ge 82, 3) := by decide +kernel
theorem dX6_mixedFields_21 : decode cX6_mixedFields 21 = .ok (.aload_n 0, 1) := by decide +kernel
theorem dX6_mixedFields_22 : decode cX6_mixedFields 22 = .ok (.getfield 25, 3) := by decide +kernel
theorem dX6_mixedFields_25 : decode cX6_mixedFields 25 = .ok (.iload 5, 2) := by decide +kernel
theorem dX6_mixedFields_27 : decode cX6_mixedFields 27 = .ok (.aaload, 1) := by decide +kernel
theorem dX6_mixedFields_28 : decode cX6_mixedFields 28 = .ok (.astore 6, 2) := by decide +kernel
theorem dX6_mixedFields_30 : decode cX6_mixedFields 30 = .ok (.lload_n 3, 1) := by decide +kernel
theorem dX6_mixedFields_31 : decode cX6_mixedFields 31 = .ok (.aload 6, 2) := by decide +kernel
theorem dX6_mixedFields_33 : decode cX6_mixedFields 33 = .ok (.getfield 90, 3) := by decide +kernel
theorem dX6_mixedFields_36 : decode cX6_mixedFields 36 = .ok (.i2l, 1) := by decide +kernel
theorem dX6_mixedFields_37 : decode cX6_mixedFields 37 = .ok (.invokestatic 339, 3) := by decide +kernel
theorem dX6_mixedFields_40 : decode cX6_mixedFields 40 = .ok (.lstore_n 3, 1) := by decide +kernel
theorem dX6_mixedFields_41 : decode cX6_mixedFields 41 = .ok (.iconst 0, 1) := by decide +kernel
theorem dX6_mixedFields_42 : decode cX6_mixedFields 42 = .ok (.istore 7, 2) := by decide +kernel
theorem dX6_mixedFields_44 : decode cX6_mixedFields 44 = .ok (.iload 7, 2) := by decide +kernel
theorem dX6_mixedFields_46 : decode cX6_mixedFields 46 = .ok (.aload 6, 2) := by decide +kernel
theorem dX6_mixedFields_48 : decode cX6_mixedFields 48 = .ok (.getfield 286, 3) := by decide +kernel
theorem dX6_mixedFields_51 : decode cX6_mixedFields 51 = .ok (.if_icmp .ge 43, 3) := by decide +kernel
theorem dX6_mixedFields_54 : decode cX6_mixedFields 54 = .ok (.iload 7, 2) := by decide +kernel
theorem dX6_mixedFields_56 : decode cX6_mixedFields 56 = .ok (.iconst 4, 1) := by decide +kernel
theorem dX6_mixedFields_57 : decode cX6_mixedFields 57 = .ok (.if_icmp .ge 37, 3) := by decide +kernel
theorem dX6_mixedFields_60 : decode cX6_mixedFields 60 = .ok (.lload_n 3, 1) := by decide +kernel
theorem dX6_mixedFields_61 : decode cX6_mixedFields 61 = .ok (.aload 6, 2) := by decide +kernel
theorem dX6_mixedFields_63 : decode cX6_mixedFields 63 = .ok (.getfield 289, 3) := by decide +kernel
theorem dX6_mixedFields_66 : decode cX6_mixedFields 66 = .ok (.iload 7, 2) := by decide +kernel
theorem dX6_mixedFields_68 : decode cX6_mixedFields 68 = .ok (.iaload, 1) := by decide +kernel
theorem dX6_mixedFields_69 : decode cX6_mixedFields 69 = .ok (.i2l, 1) := by decide +kernel
theorem dX6_mixedFields_70 : decode cX6_mixedFields 70 = .ok (.invokestatic 339, 3) := by decide +kernel
theorem dX6_mixedFields_73 : decode cX6_mixedFields 73 = .ok (.lstore_n 3, 1) := by decide +kernel
theorem dX6_mixedFields_74 : decode cX6_mixedFields 74 = .ok (.lload_n 3, 1) := by decide +kernel
theorem dX6_mixedFields_75 : decode cX6_mixedFields 75 = .ok (.aload 6, 2) := by decide +kernel
theorem dX6_mixedFields_77 : decode cX6_mixedFields 77 = .ok (.getfield 296, 3) := by decide +kernel
theorem dX6_mixedFields_80 : decode cX6_mixedFields 80 = .ok (.iload 7, 2) := by decide +kernel
theorem dX6_mixedFields_82 : decode cX6_mixedFields 82 = .ok (.iaload, 1) := by decide +kernel
theorem dX6_mixedFields_83 : decode cX6_mixedFields 83 = .ok (.i2l, 1) := by decide +kernel
theorem dX6_mixedFields_84 : decode cX6_mixedFields 84 = .ok (.invokestatic 339, 3) := by decide +kernel
theorem dX6_mixedFields_87 : decode cX6_mixedFields 87 = .ok (.lstore_n 3, 1) := by decide +kernel
theorem dX6_mixedFields_88 : decode cX6_mixedFields 88 = .ok (.iinc 7 1, 3) := by decide +kernel
theorem dX6_mixedFields_91 : decode cX6_mixedFields 91 = .ok (.goto (-47), 3) := by decide +kernel
theorem dX6_mixedFields_94 : decode cX6_mixedFields 94 = .ok (.iinc 5 1, 3) := by decide +kernel
theorem dX6_mixedFields_97 : decode cX6_mixedFields 97 = .ok (.goto (-92), 3) := by decide +kernel
theorem dX6_mixedFields_100 : decode cX6_mixedFields 100 = .ok (.lload_n 3, 1) := by decide +kernel
theorem dX6_mixedFields_101 : decode cX6_mixedFields 101 = .ok (.lreturn, 1) := by decide +kernel
theorem dX6_mixedOrders_0 : decode cX6_mixedOrders 0 = .ok (.lload_n 1, 1) := by decide +kernel
theorem dX6_mixedOrders_1 : decode cX6_mixedOrders 1 = .ok (.lstore_n 3, 1) := by decide +kernel
theorem dX6_mixedOrders_2 : decode cX6_mixedOrders 2 = .ok (.iconst 0, 1) := by decide +kernel
theorem dX6_mixedOrders_3 : decode cX6_mixedOrders 3 = .ok (.istore 5, 2) := by decide +kernel
theorem dX6_mixedOrders_5 : decode cX6_mixedOrders 5 = .ok (.iload 5, 2) := by decide +kernel
theorem dX6_mixedOrders_7 : decode cX6_mixedOrders 7 = .ok (.aload_n 0, 1) := by decide +kernel
theorem dX6_mixedOrders_8 : decode cX6_mixedOrders 8 = .ok (.getfield 100, 3) := by decide +kernel
theorem dX6_mixedOrders_11 : decode cX6_mixedOrders 11 = .ok (.if_icmp .ge 83, 3) := by decide +kernel
theorem dX6_mixedOrders_14 : decode cX6_mixedOrders 14 = .ok (.aload_n 0, 1) := by decide +kernel
theorem dX6_mixedOrders_15 : decode cX6_mixedOrders 15 = .ok (.iload 5, 2) := by decide +kernel
theorem dX6_mixedOrders_17 : decode cX6_mixedOrders 17 = .ok (.invokevirtual 199, 3) := by decide +kernel
theorem dX6_mixedOrders_20 : decode cX6_mixedOrders 20 = .ok (.astore 6, 2) := by decide +kernel
theorem dX6_mixedOrders_22 : decode cX6_mixedOrders 22 = .ok (.aload 6, 2) := by decide +kernel
theorem dX6_mixedOrders_24 : decode cX6_mixedOrders 24 = .ok (.ifnull 64, 3) := by decide +kernel
theorem dX6_mixedOrders_27 : decode cX6_mixedOrders 27 = .ok (.lload_n 3, 1) := by decide +kernel
theorem dX6_mixedOrders_28 : decode cX6_mixedOrders 28 = .ok (.aload 6, 2) := by decide +kernel
theorem dX6_mixedOrders_30 : decode cX6_mixedOrders 30 = .ok (.getfield 364, 3) := by decide +kernel
theorem dX6_mixedOrders_33 : decode cX6_mixedOrders 33 = .ok (.i2l, 1) := by decide +kernel
theorem dX6_mixedOrders_34 : decode cX6_mixedOrders 34 = .ok (.invokestatic 339, 3) := by decide +kernel
theorem dX6_mixedOrders_37 : decode cX6_mixedOrders 37 = .ok (.lstore_n 3, 1) := by decide +kernel
theorem dX6_mixedOrders_38 : decode cX6_mixedOrders 38 = .ok (.iconst 0, 1) := by decide +kernel
theorem dX6_mixedOrders_39 : decode cX6_mixedOrders 39 = .ok (.istore 7, 2) := by decide +kernel
theorem dX6_mixedOrders_41 : decode cX6_mixedOrders 41 = .ok (.iload 7, 2) := by decide +kernel
theorem dX6_mixedOrders_43 : decode cX6_mixedOrders 43 = .ok (.aload 6, 2) := by decide +kernel
theorem dX6_mixedOrders_45 : decode cX6_mixedOrders 45 = .ok (.getfield 147, 3) := by decide +kernel
theorem dX6_mixedOrders_48 : decode cX6_mixedOrders 48 = .ok (.if_icmp .ge 40, 3) := by decide +kernel
theorem dX6_mixedOrders_51 : decode cX6_mixedOrders 51 = .ok (.iconst 0, 1) := by decide +kernel
theorem dX6_mixedOrders_52 : decode cX6_mixedOrders 52 = .ok (.istore 8, 2) := by decide +kernel
theorem dX6_mixedOrders_54 : decode cX6_mixedOrders 54 = .ok (.iload 8, 2) := by decide +kernel
theorem dX6_mixedOrders_56 : decode cX6_mixedOrders 56 = .ok (.bipush 14, 2) := by decide +kernel
theorem dX6_mixedOrders_58 : decode cX6_mixedOrders 58 = .ok (.if_icmp .ge 24, 3) := by decide +kernel
theorem dX6_mixedOrders_61 : decode cX6_mixedOrders 61 = .ok (.lload_n 3, 1) := by decide +kernel
theorem dX6_mixedOrders_62 : decode cX6_mixedOrders 62 = .ok (.aload_n 0, 1) := by decide +kernel
theorem dX6_mixedOrders_63 : decode cX6_mixedOrders 63 = .ok (.iload 5, 2) := by decide +kernel
theorem dX6_mixedOrders_65 : decode cX6_mixedOrders 65 = .ok (.iload 7, 2) := by decide +kernel
theorem dX6_mixedOrders_67 : decode cX6_mixedOrders 67 = .ok (.iload 8, 2) := by decide +kernel
theorem dX6_mixedOrders_69 : decode cX6_mixedOrders 69 = .ok (.invokevirtual 367, 3) := by decide +kernel
theorem dX6_mixedOrders_72 : decode cX6_mixedOrders 72 = .ok (.invokestatic 339, 3) := by decide +kernel
theorem dX6_mixedOrders_75 : decode cX6_mixedOrders 75 = .ok (.lstore_n 3, 1) := by decide +kernel
theorem dX6_mixedOrders_76 : decode cX6_mixedOrders 76 = .ok (.iinc 8 1, 3) := by decide +kernel
theorem dX6_mixedOrders_79 : decode cX6_mixedOrders 79 = .ok (.goto (-25), 3) := by decide +kernel
theorem dX6_mixedOrders_82 : decode cX6_mixedOrders 82 = .ok (.iinc 7 1, 3) := by decide +kernel
theorem dX6_mixedOrders_85 : decode cX6_mixedOrders 85 = .ok (.goto (-44), 3) := by decide +kernel
theorem dX6_mixedOrders_88 : decode cX6_mixedOrders 88 = .ok (.iinc 5 1, 3) := by decide +kernel
theorem dX6_mixedOrders_91 : decode cX6_mixedOrders 91 = .ok (.goto (-86), 3) := by decide +kernel
theorem dX6_mixedOrders_94 : decode cX6_mixedOrders 94 = .ok (.lload_n 3, 1) := by decide +kernel
theorem dX6_mixedOrders_95 : decode cX6_mixedOrders 95 = .ok (.lreturn, 1) := by decide +kernel
theorem dX7_init_0 : decode cX7_init 0 = .ok (.aload_n 0, 1) := by decide +kernel
theorem dX7_init_1 : decode cX7_init 1 = .ok (.invokespecial 1, 3) := by decide +kernel
theorem dX7_init_4 : decode cX7_init 4 = .ok (.aload_n 0, 1) := by decide +kernel
theorem dX7_init_5 : decode cX7_init 5 = .ok (.iconst 1, 1) := by decide +kernel
theorem dX7_init_6 : decode cX7_init 6 = .ok (.putfield 7, 3) := by decide +kernel
theorem dX7_init_9 : decode cX7_init 9 = .ok (.aload_n 0, 1) := by decide +kernel
theorem dX7_init_10 : decode cX7_init 10 = .ok (.iconst 1, 1) := by decide +kernel
theorem dX7_init_11 : decode cX7_init 11 = .ok (.putfield 13, 3) := by decide +kernel
theorem dX7_init_14 : decode cX7_init 14 = .ok (.aload_n 0, 1) := by decide +kernel
theorem dX7_init_15 : decode cX7_init 15 = .ok (.sipush 256, 3) := by decide +kernel
theorem dX7_init_18 : decode cX7_init 18 = .ok (.newarray .int, 2) := by decide +kernel
theorem dX7_init_20 : decode cX7_init 20 = .ok (.putfield 16, 3) := by decide +kernel
theorem dX7_init_23 : decode cX7_init 23 = .ok (.aload_n 0, 1) := by decide +kernel
theorem dX7_init_24 : decode cX7_init 24 = .ok (.sipush 256, 3) := by decide +kernel
theorem dX7_init_27 : decode cX7_init 27 = .ok (.newarray .int, 2) := by decide +kernel
theorem dX7_init_29 : decode cX7_init 29 = .ok (.putfield 20, 3) := by decide +kernel
theorem dX7_init_32 : decode cX7_init 32 = .ok (.aload_n 0, 1) := by decide +kernel
theorem dX7_init_33 : decode cX7_init 33 = .ok (.sipush 256, 3) := by decide +kernel
theorem dX7_init_36 : decode cX7_init 36 = .ok (.newarray .boolean, 2) := by decide +kernel
theorem dX7_init_38 : decode cX7_init 38 = .ok (.putfield 23, 3) := by decide +kernel
theorem dX7_init_41 : decode cX7_init 41 = .ok (.aload_n 0, 1) := by decide +kernel
theorem dX7_init_42 : decode cX7_init 42 = .ok (.sipush 256, 3) := by decide +kernel
theorem dX7_init_45 : decode cX7_init 45 = .ok (.newarray .boolean, 2) := by decide +kernel
theorem dX7_init_47 : decode cX7_init 47 = .ok (.putfield 27, 3) := by decide +kernel
theorem dX7_init_50 : decode cX7_init 50 = .ok (.aload_n 0, 1) := by decide +kernel
theorem dX7_init_51 : decode cX7_init 51 = .ok (.sipush 256, 3) := by decide +kernel
theorem dX7_init_54 : decode cX7_init 54 = .ok (.newarray .int, 2) := by decide +kernel
theorem dX7_init_56 : decode cX7_init 56 = .ok (.putfield 30, 3) := by decide +kernel
theorem dX7_init_59 : decode cX7_init 59 = .ok (.aload_n 0, 1) := by decide +kernel
theorem dX7_init_60 : decode cX7_init 60 = .ok (.bipush 12, 2) := by decide +kernel
theorem dX7_init_62 : decode cX7_init 62 = .ok (.newarray .int, 2) := by decide +kernel
theorem dX7_init_64 : decode cX7_init 64 = .ok (.putfield 33, 3) := by decide +kernel
theorem dX7_init_67 : decode cX7_init 67 = .ok (.aload_n 0, 1) := by decide +kernel
theorem dX7_init_68 : decode cX7_init 68 = .ok (.bipush 12, 2) := by decide +kernel
theorem dX7_init_70 : decode cX7_init 70 = .ok (.newarray .int, 2) := by decide +kernel
theorem dX7_init_72 : decode cX7_init 72 = .ok (.putfield 36, 3) := by decide +kernel
theorem dX7_init_75 : decode cX7_init 75 = .ok (.aload_n 0, 1) := by decide +kernel
theorem dX7_init_76 : decode cX7_init 76 = .ok (.bipush 48, 2) := by decide +kernel
theorem dX7_init_78 : decode cX7_init 78 = .ok (.newarray .int, 2) := by decide +kernel
theorem dX7_init_80 : decode cX7_init 80 = .ok (.putfield 39, 3) := by decide +kernel
theorem dX7_init_83 : decode cX7_init 83 = .ok (.aload_n 0, 1) := by decide +kernel
theorem dX7_init_84 : decode cX7_init 84 = .ok (.bipush 48, 2) := by decide +kernel
theorem dX7_init_86 : decode cX7_init 86 = .ok (.newarray .int, 2) := by decide +kernel
theorem dX7_init_88 : decode cX7_init 88 = .ok (.putfield 42, 3) := by decide +kernel
theorem dX7_init_91 : decode cX7_init 91 = .ok (.aload_n 0, 1) := by decide +kernel
theorem dX7_init_92 : decode cX7_init 92 = .ok (.iconst 4, 1) := by decide +kernel
theorem dX7_init_93 : decode cX7_init 93 = .ok (.newarray .int, 2) := by decide +kernel
theorem dX7_init_95 : decode cX7_init 95 = .ok (.putfield 45, 3) := by decide +kernel
theorem dX7_init_98 : decode cX7_init 98 = .ok (.aload_n 0, 1) := by decide +kernel
theorem dX7_init_99 : decode cX7_init 99 = .ok (.bipush 80, 2) := by decide +kernel
theorem dX7_init_101 : decode cX7_init 101 = .ok (.newarray .int, 2) := by decide +kernel
theorem dX7_init_103 : decode cX7_init 103 = .ok (.putfield 48, 3) := by decide +kernel
theorem dX7_init_106 : decode cX7_init 106 = .ok (.aload_n 0, 1) := by decide +kernel
theorem dX7_init_107 : decode cX7_init 107 = .ok (.bipush 80, 2) := by decide +kernel
theorem dX7_init_109 : decode cX7_init 109 = .ok (.newarray .int, 2) := by decide +kernel
theorem dX7_init_111 : decode cX7_init 111 = .ok (.putfield 51, 3) := by decide +kernel
theorem dX7_init_114 : decode cX7_init 114 = .ok (.aload_n 0, 1) := by decide +kernel
theorem dX7_init_115 : decode cX7_init 115 = .ok (.iconst 5, 1) := by decide +kernel
theorem dX7_init_116 : decode cX7_init 116 = .ok (.newarray .int, 2) := by decide +kernel
theorem dX7_init_118 : decode cX7_init 118 = .ok (.putfield 54, 3) := by decide +kernel
theorem dX7_init_121 : decode cX7_init 121 = .ok (.aload_n 0, 1) := by decide +kernel
theorem dX7_init_122 : decode cX7_init 122 = .ok (.bipush 60, 2) := by decide +kernel
theorem dX7_init_124 : decode cX7_init 124 = .ok (.newarray .int, 2) := by decide +kernel
theorem dX7_init_126 : decode cX7_init 126 = .ok (.putfield 57, 3) := by decide +kernel
theorem dX7_init_129 : decode cX7_init 129 = .ok (.aload_n 0, 1) := by decide +kernel
theorem dX7_init_130 : decode cX7_init 130 = .ok (.bipush 60, 2) := by decide +kernel
theorem dX7_init_132 : decode cX7_init 132 = .ok (.newarray .int, 2) := by decide +kernel
theorem dX7_init_134 : decode cX7_init 134 = .ok (.putfield 60, 3) := by decide +kernel
theorem dX7_init_137 : decode cX7_init 137 = .ok (.aload_n 0, 1) := by decide +kernel
theorem dX7_init_138 : decode cX7_init 138 = .ok (.bipush 60, 2) := by decide +kernel
theorem dX7_init_140 : decode cX7_init 140 = .ok (.newarray .int, 2) := by decide +kernel
theorem dX7_init_142 : decode cX7_init 142 = .ok (.putfield 63, 3) := by decide +kernel
theorem dX7_init_145 : decode cX7_init 145 = .ok (.aload_n 0, 1) := by decide +kernel
theorem dX7_init_146 : decode cX7_init 146 = .ok (.bipush 60, 2) := by decide +kernel
theorem dX7_init_148 : decode cX7_init 148 = .ok (.newarray .boolean, 2) := by decide +kernel
theorem dX7_init_150 : decode cX7_init 150 = .ok (.putfield 66, 3) := by decide +kernel
theorem dX7_init_153 : decode cX7_init 153 = .ok (.aload_n 0, 1) := by decide +kernel
theorem dX7_init_154 : decode cX7_init 154 = .ok (.sipush 720, 3) := by decide +kernel
theorem dX7_init_157 : decode cX7_init 157 = .ok (.newarray .int, 2) := by decide +kernel
theorem dX7_init_159 : decode cX7_init 159 = .ok (.putfield 69, 3) := by decide +kernel
theorem dX7_init_162 : decode cX7_init 162 = .ok (.aload_n 0, 1) := by decide +kernel
theorem dX7_init_163 : decode cX7_init 163 = .ok (.sipush 720, 3) := by decide +kernel
theorem dX7_init_166 : decode cX7_init 166 = .ok (.newarray .int, 2) := by decide +kernel
theorem dX7_init_168 : decode cX7_init 168 = .ok (.putfield 72, 3) := by decide +kernel
theorem dX7_init_171 : decode cX7_init 171 = .ok (.aload_n 0, 1) := by decide +kernel
theorem dX7_init_172 : decode cX7_init 172 = .ok (.sipush 720, 3) := by decide +kernel
theorem dX7_init_175 : decode cX7_init 175 = .ok (.newarray .int, 2) := by decide +kernel
theorem dX7_init_177 : decode cX7_init 177 = .ok (.putfield 75, 3) := by decide +kernel
theorem dX7_init_180 : decode cX7_init 180 = .ok (.aload_n 0, 1) := by decide +kernel
theorem dX7_init_181 : decode cX7_init 181 = .ok (.sipush 720, 3) := by decide +kernel
theorem dX7_init_184 : decode cX7_init 184 = .ok (.newarray .int, 2) := by decide +kernel
theorem dX7_init_186 : decode cX7_init 186 = .ok (.putfield 78, 3) := by decide +kernel
theorem dX7_init_189 : decode cX7_init 189 = .ok (.aload_n 0, 1) := by decide +kernel
theorem dX7_init_190 : decode cX7_init 190 = .ok (.sipush 720, 3) := by decide +kernel
theorem dX7_init_193 : decode cX7_init 193 = .ok (.newarray .int, 2) := by decide +kernel
theorem dX7_init_195 : decode cX7_init 195 = .ok (.putfield 81, 3) := by decide +kernel
theorem dX7_init_198 : decode cX7_init 198 = .ok (.aload_n 0, 1) := by decide +kernel
theorem dX7_init_199 : decode cX7_init 199 = .ok (.sipush 720, 3) := by decide +kernel
theorem dX7_init_202 : decode cX7_init 202 = .ok (.newarray .long, 2) := by decide +kernel
theorem dX7_init_204 : decode cX7_init 204 = .ok (.putfield 84, 3) := by decide +kernel
theorem dX7_init_207 : decode cX7_init 207 = .ok (.aload_n 0, 1) := by decide +kernel
theorem dX7_init_208 : decode cX7_init 208 = .ok (.sipush 720, 3) := by decide +kernel
theorem dX7_init_211 : decode cX7_init 211 = .ok (.newarray .long, 2) := by decide +kernel
theorem dX7_init_213 : decode cX7_init 213 = .ok (.putfield 88, 3) := by decide +kernel
theorem dX7_init_216 : decode cX7_init 216 = .ok (.aload_n 0, 1) := by decide +kernel
theorem dX7_init_217 : decode cX7_init 217 = .ok (.sipush 720, 3) := by decide +kernel
theorem dX7_init_220 : decode cX7_init 220 = .ok (.newarray .long, 2) := by decide +kernel
theorem dX7_init_222 : decode cX7_init 222 = .ok (.putfield 91, 3) := by decide +kernel
theorem dX7_init_225 : decode cX7_init 225 = .ok (.aload_n 0, 1) := by decide +kernel
theorem dX7_init_226 : decode cX7_init 226 = .ok (.sipush 720, 3) := by decide +kernel
theorem dX7_init_229 : decode cX7_init 229 = .ok (.newarray .long, 2) := by decide +kernel
theorem dX7_init_231 : decode cX7_init 231 = .ok (.putfield 94, 3) := by decide +kernel
theorem dX7_init_234 : decode cX7_init 234 = .ok (.aload_n 0, 1) := by decide +kernel
theorem dX7_init_235 : decode cX7_init 235 = .ok (.sipush 720, 3) := by decide +kernel
theorem dX7_init_238 : decode cX7_init 238 = .ok (.newarray .long, 2) := by decide +kernel
theorem dX7_init_240 : decode cX7_init 240 = .ok (.putfield 97, 3) := by decide +kernel
theorem dX7_init_243 : decode cX7_init 243 = .ok (.aload_n 0, 1) := by decide +kernel
theorem dX7_init_244 : decode cX7_init 244 = .ok (.sipush 720, 3) := by decide +kernel
theorem dX7_init_247 : decode cX7_init 247 = .ok (.newarray .long, 2) := by decide +kernel
theorem dX7_init_249 : decode cX7_init 249 = .ok (.putfield 100, 3) := by decide +kernel
theorem dX7_init_252 : decode cX7_init 252 = .ok (.aload_n 0, 1) := by decide +kernel
theorem dX7_init_253 : decode cX7_init 253 = .ok (.sipush 720, 3) := by decide +kernel
theorem dX7_init_256 : decode cX7_init 256 = .ok (.newarray .long, 2) := by decide +kernel
theorem dX7_init_258 : decode cX7_init 258 = .ok (.putfield 103, 3) := by decide +kernel
theorem dX7_init_261 : decode cX7_init 261 = .ok (.aload_n 0, 1) := by decide +kernel
theorem dX7_init_262 : decode cX7_init 262 = .ok (.sipush 720, 3) := by decide +kernel
theorem dX7_init_265 : decode cX7_init 265 = .ok (.newarray .int, 2) := by decide +kernel
theorem dX7_init_267 : decode cX7_init 267 = .ok (.putfield 106, 3) := by decide +kernel
theorem dX7_init_270 : decode cX7_init 270 = .ok (.aload_n 0, 1) := by decide +kernel
theorem dX7_init_271 : decode cX7_init 271 = .ok (.sipush 2880, 3) := by decide +kernel
theorem dX7_init_274 : decode cX7_init 274 = .ok (.newarray .long, 2) := by decide +kernel
theorem dX7_init_276 : decode cX7_init 276 = .ok (.putfield 109, 3) := by decide +kernel
theorem dX7_init_279 : decode cX7_init 279 = .ok (.aload_n 0, 1) := by decide +kernel
theorem dX7_init_280 : decode cX7_init 280 = .ok (.sipush 256, 3) := by decide +kernel
theorem dX7_init_283 : decode cX7_init 283 = .ok (.newarray .int, 2) := by decide +kernel
theorem dX7_init_285 : decode cX7_init 285 = .ok (.putfield 112, 3) := by decide +kernel
theorem dX7_init_288 : decode cX7_init 288 = .ok (.aload_n 0, 1) := by decide +kernel
theorem dX7_init_289 : decode cX7_init 289 = .ok (.sipush 256, 3) := by decide +kernel
theorem dX7_init_292 : decode cX7_init 292 = .ok (.newarray .int, 2) := by decide +kernel
theorem dX7_init_294 : decode cX7_init 294 = .ok (.putfield 115, 3) := by decide +kernel
theorem dX7_init_297 : decode cX7_init 297 = .ok (.aload_n 0, 1) := by decide +kernel
theorem dX7_init_298 : decode cX7_init 298 = .ok (.sipush 256, 3) := by decide +kernel
theorem dX7_init_301 : decode cX7_init 301 = .ok (.newarray .int, 2) := by decide +kernel
theorem dX7_init_303 : decode cX7_init 303 = .ok (.putfield 118, 3) := by decide +kernel
theorem dX7_init_306 : decode cX7_init 306 = .ok (.aload_n 0, 1) := by decide +kernel
theorem dX7_init_307 : decode cX7_init 307 = .ok (.sipush 256, 3) := by decide +kernel
theorem dX7_init_310 : decode cX7_init 310 = .ok (.newarray .int, 2) := by decide +kernel
theorem dX7_init_312 : decode cX7_init 312 = .ok (.putfield 121, 3) := by decide +kernel
theorem dX7_init_315 : decode cX7_init 315 = .ok (.aload_n 0, 1) := by decide +kernel
theorem dX7_init_316 : decode cX7_init 316 = .ok (.sipush 256, 3) := by decide +kernel
theorem dX7_init_319 : decode cX7_init 319 = .ok (.newarray .boolean, 2) := by decide +kernel
theorem dX7_init_321 : decode cX7_init 321 = .ok (.putfield 124, 3) := by decide +kernel
theorem dX7_init_324 : decode cX7_init 324 = .ok (.aload_n 0, 1) := by decide +kernel
theorem dX7_init_325 : decode cX7_init 325 = .ok (.invokevirtual 127, 3) := by decide +kernel
theorem dX7_init_328 : decode cX7_init 328 = .ok (.aload_n 0, 1) := by decide +kernel
theorem dX7_init_329 : decode cX7_init 329 = .ok (.getfield 54, 3) := by decide +kernel
theorem dX7_init_332 : decode cX7_init 332 = .ok (.iconst 4, 1) := by decide +kernel
theorem dX7_init_333 : decode cX7_init 333 = .ok (.bipush 28, 2) := by decide +kernel
theorem dX7_init_335 : decode cX7_init 335 = .ok (.iastore, 1) := by decide +kernel
theorem dX7_init_336 : decode cX7_init 336 = .ok (.return_, 1) := by decide +kernel
theorem dX7_in_0 : decode cX7_in 0 = .ok (.lload_n 0, 1) := by decide +kernel
theorem dX7_in_1 : decode cX7_in 1 = .ok (.lload_n 2, 1) := by decide +kernel
theorem dX7_in_2 : decode cX7_in 2 = .ok (.lcmp, 1) := by decide +kernel
theorem dX7_in_3 : decode cX7_in 3 = .ok (.ifCond .lt 14, 3) := by decide +kernel
theorem dX7_in_6 : decode cX7_in 6 = .ok (.lload_n 0, 1) := by decide +kernel
theorem dX7_in_7 : decode cX7_in 7 = .ok (.lload 4, 2) := by decide +kernel
theorem dX7_in_9 : decode cX7_in 9 = .ok (.lcmp, 1) := by decide +kernel
theorem dX7_in_10 : decode cX7_in 10 = .ok (.ifCond .gt 7, 3) := by decide +kernel
theorem dX7_in_13 : decode cX7_in 13 = .ok (.iconst 1, 1) := by decide +kernel
theorem dX7_in_14 : decode cX7_in 14 = .ok (.goto 4, 3) := by decide +kernel
theorem dX7_in_17 : decode cX7_in 17 = .ok (.iconst 0, 1) := by decide +kernel
theorem dX7_in_18 : decode cX7_in 18 = .ok (.ireturn, 1) := by decide +kernel
theorem dX7_fresh_0 : decode cX7_fresh 0 = .ok (.iconst 0, 1) := by decide +kernel
theorem dX7_fresh_1 : decode cX7_fresh 1 = .ok (.istore_n 1, 1) := by decide +kernel
theorem dX7_fresh_2 : decode cX7_fresh 2 = .ok (.iload_n 1, 1) := by decide +kernel
theorem dX7_fresh_3 : decode cX7_fresh 3 = .ok (.sipush 256, 3) := by decide +kernel
theorem dX7_fresh_6 : decode cX7_fresh 6 = .ok (.if_icmp .ge 44, 3) := by decide +kernel
theorem dX7_fresh_9 : decode cX7_fresh 9 = .ok (.aload_n 0, 1) := by decide +kernel
theorem dX7_fresh_10 : decode cX7_fresh 10 = .ok (.getfield 16, 3) := by decide +kernel
theorem dX7_fresh_13 : decode cX7_fresh 13 = .ok (.iload_n 1, 1) := by decide +kernel
theorem dX7_fresh_14 : decode cX7_fresh 14 = .ok (.iconst (-1), 1) := by decide +kernel
theorem dX7_fresh_15 : decode cX7_fresh 15 = .ok (.iastore, 1) := by decide +kernel
theorem dX7_fresh_16 : decode cX7_fresh 16 = .ok (.aload_n 0, 1) := by decide +kernel
theorem dX7_fresh_17 : decode cX7_fresh 17 = .ok (.getfield 20, 3) := by decide +kernel
theorem dX7_fresh_20 : decode cX7_fresh 20 = .ok (.iload_n 1, 1) := by decide +kernel
theorem dX7_fresh_21 : decode cX7_fresh 21 = .ok (.iconst 0, 1) := by decide +kernel
theorem dX7_fresh_22 : decode cX7_fresh 22 = .ok (.iastore, 1) := by decide +kernel
theorem dX7_fresh_23 : decode cX7_fresh 23 = .ok (.aload_n 0, 1) := by decide +kernel
theorem dX7_fresh_24 : decode cX7_fresh 24 = .ok (.getfield 23, 3) := by decide +kernel
theorem dX7_fresh_27 : decode cX7_fresh 27 = .ok (.iload_n 1, 1) := by decide +kernel
theorem dX7_fresh_28 : decode cX7_fresh 28 = .ok (.iconst 0, 1) := by decide +kernel
theorem dX7_fresh_29 : decode cX7_fresh 29 = .ok (.bastore, 1) := by decide +kernel
theorem dX7_fresh_30 : decode cX7_fresh 30 = .ok (.aload_n 0, 1) := by decide +kernel
theorem dX7_fresh_31 : decode cX7_fresh 31 = .ok (.getfield 27, 3) := by decide +kernel
theorem dX7_fresh_34 : decode cX7_fresh 34 = .ok (.iload_n 1, 1) := by decide +kernel
theorem dX7_fresh_35 : decode cX7_fresh 35 = .ok (.iconst 0, 1) := by decide +kernel
theorem dX7_fresh_36 : decode cX7_fresh 36 = .ok (.bastore, 1) := by decide +kernel
theorem dX7_fresh_37 : decode cX7_fresh 37 = .ok (.aload_n 0, 1) := by decide +kernel
theorem dX7_fresh_38 : decode cX7_fresh 38 = .ok (.getfield 30, 3) := by decide +kernel
theorem dX7_fresh_41 : decode cX7_fresh 41 = .ok (.iload_n 1, 1) := by decide +kernel
theorem dX7_fresh_42 : decode cX7_fresh 42 = .ok (.iconst 0, 1) := by decide +kernel
theorem dX7_fresh_43 : decode cX7_fresh 43 = .ok (.iastore, 1) := by decide +kernel
theorem dX7_fresh_44 : decode cX7_fresh 44 = .ok (.iinc 1 1, 3) := by decide +kernel
theorem dX7_fresh_47 : decode cX7_fresh 47 = .ok (.goto (-45), 3) := by decide +kernel
theorem dX7_fresh_50 : decode cX7_fresh 50 = .ok (.aload_n 0, 1) := by decide +kernel
theorem dX7_fresh_51 : decode cX7_fresh 51 = .ok (.iconst 0, 1) := by decide +kernel
theorem dX7_fresh_52 : decode cX7_fresh 52 = .ok (.putfield 130, 3) := by decide +kernel
theorem dX7_fresh_55 : decode cX7_fresh 55 = .ok (.return_, 1) := by decide +kernel
theorem dX7_isCell_0 : decode cX7_isCell 0 = .ok (.iload_n 1, 1) := by decide +kernel
theorem dX7_isCell_1 : decode cX7_isCell 1 = .ok (.i2l, 1) := by decide +kernel
theorem dX7_isCell_2 : decode cX7_isCell 2 = .ok (.lconst 0, 1) := by decide +kernel
theorem dX7_isCell_3 : decode cX7_isCell 3 = .ok (.aload_n 0, 1) := by decide +kernel
theorem dX7_isCell_4 : decode cX7_isCell 4 = .ok (.getfield 7, 3) := by decide +kernel
theorem dX7_isCell_7 : decode cX7_isCell 7 = .ok (.iconst 1, 1) := by decide +kernel
theorem dX7_isCell_8 : decode cX7_isCell 8 = .ok (.isub, 1) := by decide +kernel
theorem dX7_isCell_9 : decode cX7_isCell 9 = .ok (.i2l, 1) := by decide +kernel
theorem dX7_isCell_10 : decode cX7_isCell 10 = .ok (.invokestatic 133, 3) := by decide +kernel
theorem dX7_isCell_13 : decode cX7_isCell 13 = .ok (.ifCond .eq 23, 3) := by decide +kernel
theorem dX7_isCell_16 : decode cX7_isCell 16 = .ok (.iload_n 2, 1) := by decide +kernel
theorem dX7_isCell_17 : decode cX7_isCell 17 = .ok (.i2l, 1) := by decide +kernel
theorem dX7_isCell_18 : decode cX7_isCell 18 = .ok (.lconst 0, 1) := by decide +kernel
theorem dX7_isCell_19 : decode cX7_isCell 19 = .ok (.aload_n 0, 1) := by decide +kernel
theorem dX7_isCell_20 : decode cX7_isCell 20 = .ok (.getfield 13, 3) := by decide +kernel
theorem dX7_isCell_23 : decode cX7_isCell 23 = .ok (.iconst 1, 1) := by decide +kernel
theorem dX7_isCell_24 : decode cX7_isCell 24 = .ok (.isub, 1) := by decide +kernel
theorem dX7_isCell_25 : decode cX7_isCell 25 = .ok (.i2l, 1) := by decide +kernel
theorem dX7_isCell_26 : decode cX7_isCell 26 = .ok (.invokestatic 133, 3) := by decide +kernel
theorem dX7_isCell_29 : decode cX7_isCell 29 = .ok (.ifCond .eq 7, 3) := by decide +kernel
theorem dX7_isCell_32 : decode cX7_isCell 32 = .ok (.iconst 1, 1) := by decide +kernel
theorem dX7_isCell_33 : decode cX7_isCell 33 = .ok (.goto 4, 3) := by decide +kernel
theorem dX7_isCell_36 : decode cX7_isCell 36 = .ok (.iconst 0, 1) := by decide +kernel
theorem dX7_isCell_37 : decode cX7_isCell 37 = .ok (.ireturn, 1) := by decide +kernel
theorem dX7_isField_0 : decode cX7_isField 0 = .ok (.iload_n 1, 1) := by decide +kernel
theorem dX7_isField_1 : decode cX7_isField 1 = .ok (.i2l, 1) := by decide +kernel
theorem dX7_isField_2 : decode cX7_isField 2 = .ok (.lconst 0, 1) := by decide +kernel
theorem dX7_isField_3 : decode cX7_isField 3 = .ok (.aload_n 0, 1) := by decide +kernel
theorem dX7_isField_4 : decode cX7_isField 4 = .ok (.getfield 130, 3) := by decide +kernel
theorem dX7_isField_7 : decode cX7_isField 7 = .ok (.iconst 1, 1) := by decide +kernel
theorem dX7_isField_8 : decode cX7_isField 8 = .ok (.isub, 1) := by decide +kernel
theorem dX7_isField_9 : decode cX7_isField 9 = .ok (.i2l, 1) := by decide +kernel
theorem dX7_isField_10 : decode cX7_isField 10 = .ok (.invokestatic 133, 3) := by decide +kernel
theorem dX7_isField_13 : decode cX7_isField 13 = .ok (.ireturn, 1) := by decide +kernel
theorem dX7_map_0 : decode cX7_map 0 = .ok (.iload_n 1, 1) := by decide +kernel
theorem dX7_map_1 : decode cX7_map 1 = .ok (.i2l, 1) := by decide +kernel
theorem dX7_map_2 : decode cX7_map 2 = .ok (.lconst 1, 1) := by decide +kernel
theorem dX7_map_3 : decode cX7_map 3 = .ok (.ldc2_w 137, 3) := by decide +kernel
theorem dX7_map_6 : decode cX7_map 6 = .ok (.invokestatic 133, 3) := by decide +kernel
theorem dX7_map_9 : decode cX7_map 9 = .ok (.ifCond .eq 15, 3) := by decide +kernel
theorem dX7_map_12 : decode cX7_map 12 = .ok (.iload_n 2, 1) := by decide +kernel
theorem dX7_map_13 : decode cX7_map 13 = .ok (.i2l, 1) := by decide +kernel
theorem dX7_map_14 : decode cX7_map 14 = .ok (.lconst 1, 1) := by decide +kernel
theorem dX7_map_15 : decode cX7_map 15 = .ok (.ldc2_w 137, 3) := by decide +kernel
theorem dX7_map_18 : decode cX7_map 18 = .ok (.invokestatic 133, 3) := by decide +kernel
theorem dX7_map_21 : decode cX7_map 21 = .ok (.ifCond .ne 6, 3) := by decide +kernel
theorem dX7_map_24 : decode cX7_map 24 = .ok (.bipush (-102), 2) := by decide +kernel
theorem dX7_map_26 : decode cX7_map 26 = .ok (.ireturn, 1) := by decide +kernel
theorem dX7_map_27 : decode cX7_map 27 = .ok (.aload_n 0, 1) := by decide +kernel
theorem dX7_map_28 : decode cX7_map 28 = .ok (.getfield 139, 3) := by decide +kernel
theorem dX7_map_31 : decode cX7_map 31 = .ok (.ifCond .eq 6, 3) := by decide +kernel
theorem dX7_map_34 : decode cX7_map 34 = .ok (.bipush (-103), 2) := by decide +kernel
theorem dX7_map_36 : decode cX7_map 36 = .ok (.ireturn, 1) := by decide +kernel
theorem dX7_map_37 : decode cX7_map 37 = .ok (.aload_n 0, 1) := by decide +kernel
theorem dX7_map_38 : decode cX7_map 38 = .ok (.iload_n 1, 1) := by decide +kernel
theorem dX7_map_39 : decode cX7_map 39 = .ok (.putfield 7, 3) := by decide +kernel
theorem dX7_map_42 : decode cX7_map 42 = .ok (.aload_n 0, 1) := by decide +kernel
theorem dX7_map_43 : decode cX7_map 43 = .ok (.iload_n 2, 1) := by decide +kernel
theorem dX7_map_44 : decode cX7_map 44 = .ok (.putfield 13, 3) := by decide +kernel
theorem dX7_map_47 : decode cX7_map 47 = .ok (.aload_n 0, 1) := by decide +kernel
theorem dX7_map_48 : decode cX7_map 48 = .ok (.invokevirtual 127, 3) := by decide +kernel
theorem dX7_map_51 : decode cX7_map 51 = .ok (.iload_n 1, 1) := by decide +kernel
theorem dX7_map_52 : decode cX7_map 52 = .ok (.iload_n 2, 1) := by decide +kernel
theorem dX7_map_53 : decode cX7_map 53 = .ok (.imul, 1) := by decide +kernel
theorem dX7_map_54 : decode cX7_map 54 = .ok (.ireturn, 1) := by decide +kernel
theorem dX7_field_0 : decode cX7_field 0 = .ok (.aload_n 0, 1) := by decide +kernel
theorem dX7_field_1 : decode cX7_field 1 = .ok (.getfield 139, 3) := by decide +kernel
theorem dX7_field_4 : decode cX7_field 4 = .ok (.ifCond .eq 6, 3) := by decide +kernel
theorem dX7_field_7 : decode cX7_field 7 = .ok (.bipush (-103), 2) := by decide +kernel
theorem dX7_field_9 : decode cX7_field 9 = .ok (.ireturn, 1) := by decide +kernel
theorem dX7_field_10 : decode cX7_field 10 = .ok (.aload_n 0, 1) := by decide +kernel
theorem dX7_field_11 : decode cX7_field 11 = .ok (.getfield 130, 3) := by decide +kernel
theorem dX7_field_14 : decode cX7_field 14 = .ok (.bipush 12, 2) := by decide +kernel
theorem dX7_field_16 : decode cX7_field 16 = .ok (.if_icmp .ne 6, 3) := by decide +kernel
theorem dX7_field_19 : decode cX7_field 19 = .ok (.bipush (-104), 2) := by decide +kernel
theorem dX7_field_21 : decode cX7_field 21 = .ok (.ireturn, 1) := by decide +kernel
theorem dX7_field_22 : decode cX7_field 22 = .ok (.aload_n 0, 1) := by decide +kernel
theorem dX7_field_23 : decode cX7_field 23 = .ok (.getfield 33, 3) := by decide +kernel
theorem dX7_field_26 : decode cX7_field 26 = .ok (.aload_n 0, 1) := by decide +kernel
theorem dX7_field_27 : decode cX7_field 27 = .ok (.getfield 130, 3) := by decide +kernel
theorem dX7_field_30 : decode cX7_field 30 = .ok (.iconst (-1), 1) := by decide +kernel
theorem dX7_field_31 : decode cX7_field 31 = .ok (.iastore, 1) := by decide +kernel
theorem dX7_field_32 : decode cX7_field 32 = .ok (.aload_n 0, 1) := by decide +kernel
theorem dX7_field_33 : decode cX7_field 33 = .ok (.getfield 36, 3) := by decide +kernel
theorem dX7_field_36 : decode cX7_field 36 = .ok (.aload_n 0, 1) := by decide +kernel
theorem dX7_field_37 : decode cX7_field 37 = .ok (.getfield 130, 3) := by decide +kernel
theorem dX7_field_40 : decode cX7_field 40 = .ok (.iconst 0, 1) := by decide +kernel
theorem dX7_field_41 : decode cX7_field 41 = .ok (.iastore, 1) := by decide +kernel
theorem dX7_field_42 : decode cX7_field 42 = .ok (.aload_n 0, 1) := by decide +kernel
theorem dX7_field_43 : decode cX7_field 43 = .ok (.dup, 1) := by decide +kernel
theorem dX7_field_44 : decode cX7_field 44 = .ok (.getfield 130, 3) := by decide +kernel
theorem dX7_field_47 : decode cX7_field 47 = .ok (.iconst 1, 1) := by decide +kernel
theorem dX7_field_48 : decode cX7_field 48 = .ok (.iadd, 1) := by decide +kernel
theorem dX7_field_49 : decode cX7_field 49 = .ok (.putfield 130, 3) := by decide +kernel
theorem dX7_field_52 : decode cX7_field 52 = .ok (.aload_n 0, 1) := by decide +kernel
theorem dX7_field_53 : decode cX7_field 53 = .ok (.getfield 130, 3) := by decide +kernel
theorem dX7_field_56 : decode cX7_field 56 = .ok (.iconst 1, 1) := by decide +kernel
theorem dX7_field_57 : decode cX7_field 57 = .ok (.isub, 1) := by decide +kernel
theorem dX7_field_58 : decode cX7_field 58 = .ok (.ireturn, 1) := by decide +kernel
theorem dX7_clearHouse_0 : decode cX7_clearHouse 0 = .ok (.iconst 0, 1) := by decide +kernel
theorem dX7_clearHouse_1 : decode cX7_clearHouse 1 = .ok (.istore_n 2, 1) := by decide +kernel
theorem dX7_clearHouse_2 : decode cX7_clearHouse 2 = .ok (.iload_n 2, 1) := by decide +kernel
theorem dX7_clearHouse_3 : decode cX7_clearHouse 3 = .ok (.aload_n 0, 1) := by decide +kernel
theorem dX7_clearHouse_4 : decode cX7_clearHouse 4 = .ok (.getfield 130, 3) := by decide +kernel
theorem dX7_clearHouse_7 : decode cX7_clearHouse 7 = .ok (.if_icmp .ge 35, 3) := by decide +kernel
theorem dX7_clearHouse_10 : decode cX7_clearHouse 10 = .ok (.aload_n 0, 1) := by decide +kernel
theorem dX7_clearHouse_11 : decode cX7_clearHouse 11 = .ok (.getfield 33, 3) := by decide +kernel
theorem dX7_clearHouse_14 : decode cX7_clearHouse 14 = .ok (.iload_n 2, 1) := by decide +kernel
theorem dX7_clearHouse_15 : decode cX7_clearHouse 15 = .ok (.aload_n 0, 1) := by decide +kernel
theorem dX7_clearHouse_16 : decode cX7_clearHouse 16 = .ok (.getfield 33, 3) := by decide +kernel
theorem dX7_clearHouse_19 : decode cX7_clearHouse 19 = .ok (.iload_n 2, 1) := by decide +kernel
theorem dX7_clearHouse_20 : decode cX7_clearHouse 20 = .ok (.iaload, 1) := by decide +kernel
theorem dX7_clearHouse_21 : decode cX7_clearHouse 21 = .ok (.iload_n 1, 1) := by decide +kernel
theorem dX7_clearHouse_22 : decode cX7_clearHouse 22 = .ok (.if_icmp .ne 7, 3) := by decide +kernel
theorem dX7_clearHouse_25 : decode cX7_clearHouse 25 = .ok (.iconst (-1), 1) := by decide +kernel
theorem dX7_clearHouse_26 : decode cX7_clearHouse 26 = .ok (.goto 9, 3) := by decide +kernel
theorem dX7_clearHouse_29 : decode cX7_clearHouse 29 = .ok (.aload_n 0, 1) := by decide +kernel
theorem dX7_clearHouse_30 : decode cX7_clearHouse 30 = .ok (.getfield 33, 3) := by decide +kernel
theorem dX7_clearHouse_33 : decode cX7_clearHouse 33 = .ok (.iload_n 2, 1) := by decide +kernel
theorem dX7_clearHouse_34 : decode cX7_clearHouse 34 = .ok (.iaload, 1) := by decide +kernel
theorem dX7_clearHouse_35 : decode cX7_clearHouse 35 = .ok (.iastore, 1) := by decide +kernel
theorem dX7_clearHouse_36 : decode cX7_clearHouse 36 = .ok (.iinc 2 1, 3) := by decide +kernel
theorem dX7_clearHouse_39 : decode cX7_clearHouse 39 = .ok (.goto (-37), 3) := by decide +kernel
theorem dX7_clearHouse_42 : decode cX7_clearHouse 42 = .ok (.return_, 1) := by decide +kernel
theorem dX7_cell_0 : decode cX7_cell 0 = .ok (.aload_n 0, 1) := by decide +kernel
theorem dX7_cell_1 : decode cX7_cell 1 = .ok (.iload_n 1, 1) := by decide +kernel
theorem dX7_cell_2 : decode cX7_cell 2 = .ok (.iload_n 2, 1) := by decide +kernel
theorem dX7_cell_3 : decode cX7_cell 3 = .ok (.invokevirtual 143, 3) := by decide +kernel
theorem dX7_cell_6 : decode cX7_cell 6 = .ok (.ifCond .eq 16, 3) := by decide +kernel
theorem dX7_cell_9 : decode cX7_cell 9 = .ok (.iload_n 3, 1) := by decide +kernel
theorem dX7_cell_10 : decode cX7_cell 10 = .ok (.iconst (-1), 1) := by decide +kernel
theorem dX7_cell_11 : decode cX7_cell 11 = .ok (.if_icmp .eq 14, 3) := by decide +kernel
theorem dX7_cell_14 : decode cX7_cell 14 = .ok (.aload_n 0, 1) := by decide +kernel
theorem dX7_cell_15 : decode cX7_cell 15 = .ok (.iload_n 3, 1) := by decide +kernel
theorem dX7_cell_16 : decode cX7_cell 16 = .ok (.invokevirtual 147, 3) := by decide +kernel
theorem dX7_cell_19 : decode cX7_cell 19 = .ok (.ifCond .ne 6, 3) := by decide +kernel
theorem dX7_cell_22 : decode cX7_cell 22 = .ok (.bipush (-101), 2) := by decide +kernel
theorem dX7_cell_24 : decode cX7_cell 24 = .ok (.ireturn, 1) := by decide +kernel
theorem dX7_cell_25 : decode cX7_cell 25 = .ok (.iload 4, 2) := by decide +kernel
theorem dX7_cell_27 : decode cX7_cell 27 = .ok (.i2l, 1) := by decide +kernel
theorem dX7_cell_28 : decode cX7_cell 28 = .ok (.lconst 0, 1) := by decide +kernel
theorem dX7_cell_29 : decode cX7_cell 29 = .ok (.ldc2_w 151, 3) := by decide +kernel
theorem dX7_cell_32 : decode cX7_cell 32 = .ok (.invokestatic 133, 3) := by decide +kernel
theorem dX7_cell_35 : decode cX7_cell 35 = .ok (.ifCond .ne 6, 3) := by decide +kernel
theorem dX7_cell_38 : decode cX7_cell 38 = .ok (.bipush (-102), 2) := by decide +kernel
theorem dX7_cell_40 : decode cX7_cell 40 = .ok (.ireturn, 1) := by decide +kernel
theorem dX7_cell_41 : decode cX7_cell 41 = .ok (.aload_n 0, 1) := by decide +kernel
theorem dX7_cell_42 : decode cX7_cell 42 = .ok (.getfield 139, 3) := by decide +kernel
theorem dX7_cell_45 : decode cX7_cell 45 = .ok (.ifCond .eq 6, 3) := by decide +kernel
theorem dX7_cell_48 : decode cX7_cell 48 = .ok (.bipush (-103), 2) := by decide +kernel
theorem dX7_cell_50 : decode cX7_cell 50 = .ok (.ireturn, 1) := by decide +kernel
theorem dX7_cell_51 : decode cX7_cell 51 = .ok (.bipush 16, 2) := by decide +kernel
theorem dX7_cell_53 : decode cX7_cell 53 = .ok (.iload_n 2, 1) := by decide +kernel
theorem dX7_cell_54 : decode cX7_cell 54 = .ok (.imul, 1) := by decide +kernel
theorem dX7_cell_55 : decode cX7_cell 55 = .ok (.iload_n 1, 1) := by decide +kernel
theorem dX7_cell_56 : decode cX7_cell 56 = .ok (.iadd, 1) := by decide +kernel
theorem dX7_cell_57 : decode cX7_cell 57 = .ok (.istore 5, 2) := by decide +kernel
theorem dX7_cell_59 : decode cX7_cell 59 = .ok (.aload_n 0, 1) := by decide +kernel
theorem dX7_cell_60 : decode cX7_cell 60 = .ok (.getfield 16, 3) := by decide +kernel
theorem dX7_cell_63 : decode cX7_cell 63 = .ok (.iload 5, 2) := by decide +kernel
theorem dX7_cell_65 : decode cX7_cell 65 = .ok (.iload_n 3, 1) := by decide +kernel
theorem dX7_cell_66 : decode cX7_cell 66 = .ok (.iastore, 1) := by decide +kernel
theorem dX7_cell_67 : decode cX7_cell 67 = .ok (.aload_n 0, 1) := by decide +kernel
theorem dX7_cell_68 : decode cX7_cell 68 = .ok (.getfield 20, 3) := by decide +kernel
theorem dX7_cell_71 : decode cX7_cell 71 = .ok (.iload 5, 2) := by decide +kernel
theorem dX7_cell_73 : decode cX7_cell 73 = .ok (.iload 4, 2) := by decide +kernel
theorem dX7_cell_75 : decode cX7_cell 75 = .ok (.iastore, 1) := by decide +kernel
theorem dX7_cell_76 : decode cX7_cell 76 = .ok (.aload_n 0, 1) := by decide +kernel
theorem dX7_cell_77 : decode cX7_cell 77 = .ok (.getfield 23, 3) := by decide +kernel
theorem dX7_cell_80 : decode cX7_cell 80 = .ok (.iload 5, 2) := by decide +kernel
theorem dX7_cell_82 : decode cX7_cell 82 = .ok (.iconst 0, 1) := by decide +kernel
theorem dX7_cell_83 : decode cX7_cell 83 = .ok (.bastore, 1) := by decide +kernel
theorem dX7_cell_84 : decode cX7_cell 84 = .ok (.aload_n 0, 1) := by decide +kernel
theorem dX7_cell_85 : decode cX7_cell 85 = .ok (.iload 5, 2) := by decide +kernel
theorem dX7_cell_87 : decode cX7_cell 87 = .ok (.invokevirtual 153, 3) := by decide +kernel
theorem dX7_cell_90 : decode cX7_cell 90 = .ok (.iconst 1, 1) := by decide +kernel
theorem dX7_cell_91 : decode cX7_cell 91 = .ok (.ireturn, 1) := by decide +kernel
theorem dX7_lane_0 : decode cX7_lane 0 = .ok (.aload_n 0, 1) := by decide +kernel
theorem dX7_lane_1 : decode cX7_lane 1 = .ok (.iload_n 1, 1) := by decide +kernel
theorem dX7_lane_2 : decode cX7_lane 2 = .ok (.iload_n 2, 1) := by decide +kernel
theorem dX7_lane_3 : decode cX7_lane 3 = .ok (.invokevirtual 143, 3) := by decide +kernel
theorem dX7_lane_6 : decode cX7_lane 6 = .ok (.ifCond .ne 6, 3) := by decide +kernel
theorem dX7_lane_9 : decode cX7_lane 9 = .ok (.bipush (-101), 2) := by decide +kernel
theorem dX7_lane_11 : decode cX7_lane 11 = .ok (.ireturn, 1) := by decide +kernel
theorem dX7_lane_12 : decode cX7_lane 12 = .ok (.aload_n 0, 1) := by decide +kernel
theorem dX7_lane_13 : decode cX7_lane 13 = .ok (.getfield 139, 3) := by decide +kernel
theorem dX7_lane_16 : decode cX7_lane 16 = .ok (.ifCond .eq 6, 3) := by decide +kernel
theorem dX7_lane_19 : decode cX7_lane 19 = .ok (.bipush (-103), 2) := by decide +kernel
theorem dX7_lane_21 : decode cX7_lane 21 = .ok (.ireturn, 1) := by decide +kernel
theorem dX7_lane_22 : decode cX7_lane 22 = .ok (.bipush 16, 2) := by decide +kernel
theorem dX7_lane_24 : decode cX7_lane 24 = .ok (.iload_n 2, 1) := by decide +kernel
theorem dX7_lane_25 : decode cX7_lane 25 = .ok (.imul, 1) := by decide +kernel
theorem dX7_lane_26 : decode cX7_lane 26 = .ok (.iload_n 1, 1) := by decide +kernel
theorem dX7_lane_27 : decode cX7_lane 27 = .ok (.iadd, 1) := by decide +kernel
theorem dX7_lane_28 : decode cX7_lane 28 = .ok (.istore_n 3, 1) := by decide +kernel
theorem dX7_lane_29 : decode cX7_lane 29 = .ok (.aload_n 0, 1) := by decide +kernel
theorem dX7_lane_30 : decode cX7_lane 30 = .ok (.getfield 16, 3) := by decide +kernel
theorem dX7_lane_33 : decode cX7_lane 33 = .ok (.iload_n 3, 1) := by decide +kernel
theorem dX7_lane_34 : decode cX7_lane 34 = .ok (.iconst (-1), 1) := by decide +kernel
theorem dX7_lane_35 : decode cX7_lane 35 = .ok (.iastore, 1) := by decide +kernel
theorem dX7_lane_36 : decode cX7_lane 36 = .ok (.aload_n 0, 1) := by decide +kernel
theorem dX7_lane_37 : decode cX7_lane 37 = .ok (.getfield 23, 3) := by decide +kernel
theorem dX7_lane_40 : decode cX7_lane 40 = .ok (.iload_n 3, 1) := by decide +kernel
theorem dX7_lane_41 : decode cX7_lane 41 = .ok (.iconst 1, 1) := by decide +kernel
theorem dX7_lane_42 : decode cX7_lane 42 = .ok (.bastore, 1) := by decide +kernel
theorem dX7_lane_43 : decode cX7_lane 43 = .ok (.aload_n 0, 1) := by decide +kernel
theorem dX7_lane_44 : decode cX7_lane 44 = .ok (.iload_n 3, 1) := by decide +kernel
theorem dX7_lane_45 : decode cX7_lane 45 = .ok (.invokevirtual 153, 3) := by decide +kernel
theorem dX7_lane_48 : decode cX7_lane 48 = .ok (.iconst 1, 1) := by decide +kernel
theorem dX7_lane_49 : decode cX7_lane 49 = .ok (.ireturn, 1) := by decide +kernel
theorem dX7_house_0 : decode cX7_house 0 = .ok (.aload_n 0, 1) := by decide +kernel
theorem dX7_house_1 : decode cX7_house 1 = .ok (.iload_n 1, 1) := by decide +kernel
theorem dX7_house_2 : decode cX7_house 2 = .ok (.invokevirtual 147, 3) := by decide +kernel
theorem dX7_house_5 : decode cX7_house 5 = .ok (.ifCond .eq 12, 3) := by decide +kernel
theorem dX7_house_8 : decode cX7_house 8 = .ok (.aload_n 0, 1) := by decide +kernel
theorem dX7_house_9 : decode cX7_house 9 = .ok (.iload_n 2, 1) := by decide +kernel
theorem dX7_house_10 : decode cX7_house 10 = .ok (.iload_n 3, 1) := by decide +kernel
theorem dX7_house_11 : decode cX7_house 11 = .ok (.invokevirtual 143, 3) := by decide +kernel
theorem dX7_house_14 : decode cX7_house 14 = .ok (.ifCond .ne 6, 3) := by decide +kernel
theorem dX7_house_17 : decode cX7_house 17 = .ok (.bipush (-101), 2) := by decide +kernel
theorem dX7_house_19 : decode cX7_house 19 = .ok (.ireturn, 1) := by decide +kernel
theorem dX7_house_20 : decode cX7_house 20 = .ok (.aload_n 0, 1) := by decide +kernel
theorem dX7_house_21 : decode cX7_house 21 = .ok (.getfield 16, 3) := by decide +kernel
theorem dX7_house_24 : decode cX7_house 24 = .ok (.bipush 16, 2) := by decide +kernel
theorem dX7_house_26 : decode cX7_house 26 = .ok (.iload_n 3, 1) := by decide +kernel
theorem dX7_house_27 : decode cX7_house 27 = .ok (.imul, 1) := by decide +kernel
theorem dX7_house_28 : decode cX7_house 28 = .ok (.iload_n 2, 1) := by decide +kernel
theorem dX7_house_29 : decode cX7_house 29 = .ok (.iadd, 1) := by decide +kernel
theorem dX7_house_30 : decode cX7_house 30 = .ok (.iaload, 1) := by decide +kernel
theorem dX7_house_31 : decode cX7_house 31 = .ok (.iload_n 1, 1) := by decide +kernel
theorem dX7_house_32 : decode cX7_house 32 = .ok (.if_icmp .eq 6, 3) := by decide +kernel
theorem dX7_house_35 : decode cX7_house 35 = .ok (.bipush (-102), 2) := by decide +kernel
theorem dX7_house_37 : decode cX7_house 37 = .ok (.ireturn, 1) := by decide +kernel
theorem dX7_house_38 : decode cX7_house 38 = .ok (.aload_n 0, 1) := by decide +kernel
theorem dX7_house_39 : decode cX7_house 39 = .ok (.getfield 139, 3) := by decide +kernel
theorem dX7_house_42 : decode cX7_house 42 = .ok (.ifCond .eq 6, 3) := by decide +kernel
theorem dX7_house_45 : decode cX7_house 45 = .ok (.bipush (-103), 2) := by decide +kernel
theorem dX7_house_47 : decode cX7_house 47 = .ok (.ireturn, 1) := by decide +kernel
theorem dX7_house_48 : decode cX7_house 48 = .ok (.aload_n 0, 1) := by decide +kernel
theorem dX7_house_49 : decode cX7_house 49 = .ok (.getfield 33, 3) := by decide +kernel
theorem dX7_house_52 : decode cX7_house 52 = .ok (.iload_n 1, 1) := by decide +kernel
theorem dX7_house_53 : decode cX7_house 53 = .ok (.bipush 16, 2) := by decide +kernel
theorem dX7_house_55 : decode cX7_house 55 = .ok (.iload_n 3, 1) := by decide +kernel
theorem dX7_house_56 : decode cX7_house 56 = .ok (.imul, 1) := by decide +kernel
theorem dX7_house_57 : decode cX7_house 57 = .ok (.iload_n 2, 1) := by decide +kernel
theorem dX7_house_58 : decode cX7_house 58 = .ok (.iadd, 1) := by decide +kernel
theorem dX7_house_59 : decode cX7_house 59 = .ok (.iastore, 1) := by decide +kernel
theorem dX7_house_60 : decode cX7_house 60 = .ok (.iconst 1, 1) := by decide +kernel
theorem dX7_house_61 : decode cX7_house 61 = .ok (.ireturn, 1) := by decide +kernel
theorem dX7_right_0 : decode cX7_right 0 = .ok (.aload_n 0, 1) := by decide +kernel
theorem dX7_right_1 : decode cX7_right 1 = .ok (.iload_n 1, 1) := by decide +kernel
theorem dX7_right_2 : decode cX7_right 2 = .ok (.invokevirtual 147, 3) := by decide +kernel
theorem dX7_right_5 : decode cX7_right 5 = .ok (.ifCond .ne 6, 3) := by decide +kernel
theorem dX7_right_8 : decode cX7_right 8 = .ok (.bipush (-101), 2) := by decide +kernel
theorem dX7_right_10 : decode cX7_right 10 = .ok (.ireturn, 1) := by decide +kernel
theorem dX7_right_11 : decode cX7_right 11 = .ok (.iload_n 2, 1) := by decide +kernel
theorem dX7_right_12 : decode cX7_right 12 = .ok (.i2l, 1) := by decide +kernel
theorem dX7_right_13 : decode cX7_right 13 = .ok (.lconst 1, 1) := by decide +kernel
theorem dX7_right_14 : decode cX7_right 14 = .ok (.ldc2_w 157, 3) := by decide +kernel
theorem dX7_right_17 : decode cX7_right 17 = .ok (.invokestatic 133, 3) := by decide +kernel
theorem dX7_right_20 : decode cX7_right 20 = .ok (.ifCond .eq 26, 3) := by decide +kernel
theorem dX7_right_23 : decode cX7_right 23 = .ok (.iload_n 3, 1) := by decide +kernel
theorem dX7_right_24 : decode cX7_right 24 = .ok (.i2l, 1) := by decide +kernel
theorem dX7_right_25 : decode cX7_right 25 = .ok (.lconst 0, 1) := by decide +kernel
theorem dX7_right_26 : decode cX7_right 26 = .ok (.iload_n 2, 1) := by decide +kernel
theorem dX7_right_27 : decode cX7_right 27 = .ok (.iconst 1, 1) := by decide +kernel
theorem dX7_right_28 : decode cX7_right 28 = .ok (.if_icmp .ne 9, 3) := by decide +kernel
theorem dX7_right_31 : decode cX7_right 31 = .ok (.ldc2_w 159, 3) := by decide +kernel
theorem dX7_right_34 : decode cX7_right 34 = .ok (.goto 6, 3) := by decide +kernel
theorem dX7_right_37 : decode cX7_right 37 = .ok (.ldc2_w 161, 3) := by decide +kernel
theorem dX7_right_40 : decode cX7_right 40 = .ok (.invokestatic 133, 3) := by decide +kernel
theorem dX7_right_43 : decode cX7_right 43 = .ok (.ifCond .ne 6, 3) := by decide +kernel
theorem dX7_right_46 : decode cX7_right 46 = .ok (.bipush (-102), 2) := by decide +kernel
theorem dX7_right_48 : decode cX7_right 48 = .ok (.ireturn, 1) := by decide +kernel
theorem dX7_right_49 : decode cX7_right 49 = .ok (.aload_n 0, 1) := by decide +kernel
theorem dX7_right_50 : decode cX7_right 50 = .ok (.getfield 139, 3) := by decide +kernel
theorem dX7_right_53 : decode cX7_right 53 = .ok (.ifCond .eq 6, 3) := by decide +kernel
theorem dX7_right_56 : decode cX7_right 56 = .ok (.bipush (-103), 2) := by decide +kernel
theorem dX7_right_58 : decode cX7_right 58 = .ok (.ireturn, 1) := by decide +kernel
theorem dX7_right_59 : decode cX7_right 59 = .ok (.aload_n 0, 1) := by decide +kernel
theorem dX7_right_60 : decode cX7_right 60 = .ok (.getfield 36, 3) := by decide +kernel
theorem dX7_right_63 : decode cX7_right 63 = .ok (.iload_n 1, 1) := by decide +kernel
theorem dX7_right_64 : decode cX7_right 64 = .ok (.iaload, 1) := by decide +kernel
theorem dX7_right_65 : decode cX7_right 65 = .ok (.iconst 4, 1) := by decide +kernel
theorem dX7_right_66 : decode cX7_right 66 = .ok (.if_icmp .ne 6, 3) := by decide +kernel
theorem dX7_right_69 : decode cX7_right 69 = .ok (.bipush (-104), 2) := by decide +kernel
theorem dX7_right_71 : decode cX7_right 71 = .ok (.ireturn, 1) := by decide +kernel
theorem dX7_right_72 : decode cX7_right 72 = .ok (.aload_n 0, 1) := by decide +kernel
theorem dX7_right_73 : decode cX7_right 73 = .ok (.getfield 39, 3) := by decide +kernel
theorem dX7_right_76 : decode cX7_right 76 = .ok (.iconst 4, 1) := by decide +kernel
theorem dX7_right_77 : decode cX7_right 77 = .ok (.iload_n 1, 1) := by decide +kernel
theorem dX7_right_78 : decode cX7_right 78 = .ok (.imul, 1) := by decide +kernel
theorem dX7_right_79 : decode cX7_right 79 = .ok (.aload_n 0, 1) := by decide +kernel
theorem dX7_right_80 : decode cX7_right 80 = .ok (.getfield 36, 3) := by decide +kernel
theorem dX7_right_83 : decode cX7_right 83 = .ok (.iload_n 1, 1) := by decide +kernel
theorem dX7_right_84 : decode cX7_right 84 = .ok (.iaload, 1) := by decide +kernel
theorem dX7_right_85 : decode cX7_right 85 = .ok (.iadd, 1) := by decide +kernel
theorem dX7_right_86 : decode cX7_right 86 = .ok (.iload_n 2, 1) := by decide +kernel
theorem dX7_right_87 : decode cX7_right 87 = .ok (.iastore, 1) := by decide +kernel
theorem dX7_right_88 : decode cX7_right 88 = .ok (.aload_n 0, 1) := by decide +kernel
theorem dX7_right_89 : decode cX7_right 89 = .ok (.getfield 42, 3) := by decide +kernel
theorem dX7_right_92 : decode cX7_right 92 = .ok (.iconst 4, 1) := by decide +kernel
theorem dX7_right_93 : decode cX7_right 93 = .ok (.iload_n 1, 1) := by decide +kernel
theorem dX7_right_94 : decode cX7_right 94 = .ok (.imul, 1) := by decide +kernel
theorem dX7_right_95 : decode cX7_right 95 = .ok (.aload_n 0, 1) := by decide +kernel
theorem dX7_right_96 : decode cX7_right 96 = .ok (.getfield 36, 3) := by decide +kernel
theorem dX7_right_99 : decode cX7_right 99 = .ok (.iload_n 1, 1) := by decide +kernel
theorem dX7_right_100 : decode cX7_right 100 = .ok (.iaload, 1) := by decide +kernel
theorem dX7_right_101 : decode cX7_right 101 = .ok (.iadd, 1) := by decide +kernel
theorem dX7_right_102 : decode cX7_right 102 = .ok (.iload_n 3, 1) := by decide +kernel
theorem dX7_right_103 : decode cX7_right 103 = .ok (.iastore, 1) := by decide +kernel
theorem dX7_right_104 : decode cX7_right 104 = .ok (.aload_n 0, 1) := by decide +kernel
theorem dX7_right_105 : decode cX7_right 105 = .ok (.getfield 36, 3) := by decide +kernel
theorem dX7_right_108 : decode cX7_right 108 = .ok (.iload_n 1, 1) := by decide +kernel
theorem dX7_right_109 : decode cX7_right 109 = .ok (.dup2, 1) := by decide +kernel
theorem dX7_right_110 : decode cX7_right 110 = .ok (.iaload, 1) := by decide +kernel
theorem dX7_right_111 : decode cX7_right 111 = .ok (.iconst 1, 1) := by decide +kernel
theorem dX7_right_112 : decode cX7_right 112 = .ok (.iadd, 1) := by decide +kernel
theorem dX7_right_113 : decode cX7_right 113 = .ok (.iastore, 1) := by decide +kernel
theorem dX7_right_114 : decode cX7_right 114 = .ok (.aload_n 0, 1) := by decide +kernel
theorem dX7_right_115 : decode cX7_right 115 = .ok (.getfield 36, 3) := by decide +kernel
theorem dX7_right_118 : decode cX7_right 118 = .ok (.iload_n 1, 1) := by decide +kernel
theorem dX7_right_119 : decode cX7_right 119 = .ok (.iaload, 1) := by decide +kernel
theorem dX7_right_120 : decode cX7_right 120 = .ok (.ireturn, 1) := by decide +kernel
theorem dX7_price_0 : decode cX7_price 0 = .ok (.iload_n 1, 1) := by decide +kernel
theorem dX7_price_1 : decode cX7_price 1 = .ok (.i2l, 1) := by decide +kernel
theorem dX7_price_2 : decode cX7_price 2 = .ok (.lconst 0, 1) := by decide +kernel
theorem dX7_price_3 : decode cX7_price 3 = .ok (.ldc2_w 151, 3) := by decide +kernel
theorem dX7_price_6 : decode cX7_price 6 = .ok (.invokestatic 133, 3) := by decide +kernel
theorem dX7_price_9 : decode cX7_price 9 = .ok (.ifCond .ne 6, 3) := by decide +kernel
theorem dX7_price_12 : decode cX7_price 12 = .ok (.bipush (-101), 2) := by decide +kernel
theorem dX7_price_14 : decode cX7_price 14 = .ok (.ireturn, 1) := by decide +kernel
theorem dX7_price_15 : decode cX7_price 15 = .ok (.iload_n 2, 1) := by decide +kernel
theorem dX7_price_16 : decode cX7_price 16 = .ok (.i2l, 1) := by decide +kernel
theorem dX7_price_17 : decode cX7_price 17 = .ok (.lconst 0, 1) := by decide +kernel
theorem dX7_price_18 : decode cX7_price 18 = .ok (.ldc2_w 163, 3) := by decide +kernel
theorem dX7_price_21 : decode cX7_price 21 = .ok (.invokestatic 133, 3) := by decide +kernel
theorem dX7_price_24 : decode cX7_price 24 = .ok (.ifCond .eq 15, 3) := by decide +kernel
theorem dX7_price_27 : decode cX7_price 27 = .ok (.iload_n 3, 1) := by decide +kernel
theorem dX7_price_28 : decode cX7_price 28 = .ok (.i2l, 1) := by decide +kernel
theorem dX7_price_29 : decode cX7_price 29 = .ok (.lconst 0, 1) := by decide +kernel
theorem dX7_price_30 : decode cX7_price 30 = .ok (.ldc2_w 165, 3) := by decide +kernel
theorem dX7_price_33 : decode cX7_price 33 = .ok (.invokestatic 133, 3) := by decide +kernel
theorem dX7_price_36 : decode cX7_price 36 = .ok (.ifCond .ne 6, 3) := by decide +kernel
theorem dX7_price_39 : decode cX7_price 39 = .ok (.bipush (-102), 2) := by decide +kernel
theorem dX7_price_41 : decode cX7_price 41 = .ok (.ireturn, 1) := by decide +kernel
theorem dX7_price_42 : decode cX7_price 42 = .ok (.iconst 0, 1) := by decide +kernel
theorem dX7_price_43 : decode cX7_price 43 = .ok (.istore 4, 2) := by decide +kernel
theorem dX7_price_45 : decode cX7_price 45 = .ok (.iload 4, 2) := by decide +kernel
theorem dX7_price_47 : decode cX7_price 47 = .ok (.aload_n 0, 1) := by decide +kernel
theorem dX7_price_48 : decode cX7_price 48 = .ok (.getfield 45, 3) := by decide +kernel
theorem dX7_price_51 : decode cX7_price 51 = .ok (.iload_n 1, 1) := by decide +kernel
theorem dX7_price_52 : decode cX7_price 52 = .ok (.iaload, 1) := by decide +kernel
theorem dX7_price_53 : decode cX7_price 53 = .ok (.if_icmp .ge 25, 3) := by decide +kernel
theorem dX7_price_56 : decode cX7_price 56 = .ok (.aload_n 0, 1) := by decide +kernel
theorem dX7_price_57 : decode cX7_price 57 = .ok (.getfield 48, 3) := by decide +kernel
theorem dX7_price_60 : decode cX7_price 60 = .ok (.bipush 20, 2) := by decide +kernel
theorem dX7_price_62 : decode cX7_price 62 = .ok (.iload_n 1, 1) := by decide +kernel
theorem dX7_price_63 : decode cX7_price 63 = .ok (.imul, 1) := by decide +kernel
theorem dX7_price_64 : decode cX7_price 64 = .ok (.iload 4, 2) := by decide +kernel
theorem dX7_price_66 : decode cX7_price 66 = .ok (.iadd, 1) := by decide +kernel
theorem dX7_price_67 : decode cX7_price 67 = .ok (.iaload, 1) := by decide +kernel
theorem dX7_price_68 : decode cX7_price 68 = .ok (.iload_n 2, 1) := by decide +kernel
theorem dX7_price_69 : decode cX7_price 69 = .ok (.if_icmp .eq 9, 3) := by decide +kernel
theorem dX7_price_72 : decode cX7_price 72 = .ok (.iinc 4 1, 3) := by decide +kernel
theorem dX7_price_75 : decode cX7_price 75 = .ok (.goto (-30), 3) := by decide +kernel
theorem dX7_price_78 : decode cX7_price 78 = .ok (.iload 4, 2) := by decide +kernel
theorem dX7_price_80 : decode cX7_price 80 = .ok (.bipush 20, 2) := by decide +kernel
theorem dX7_price_82 : decode cX7_price 82 = .ok (.if_icmp .ne 6, 3) := by decide +kernel
theorem dX7_price_85 : decode cX7_price 85 = .ok (.bipush (-104), 2) := by decide +kernel
theorem dX7_price_87 : decode cX7_price 87 = .ok (.ireturn, 1) := by decide +kernel
theorem dX7_price_88 : decode cX7_price 88 = .ok (.iload 4, 2) := by decide +kernel
theorem dX7_price_90 : decode cX7_price 90 = .ok (.aload_n 0, 1) := by decide +kernel
theorem dX7_price_91 : decode cX7_price 91 = .ok (.getfield 45, 3) := by decide +kernel
theorem dX7_price_94 : decode cX7_price 94 = .ok (.iload_n 1, 1) := by decide +kernel
theorem dX7_price_95 : decode cX7_price 95 = .ok (.iaload, 1) := by decide +kernel
theorem dX7_price_96 : decode cX7_price 96 = .ok (.if_icmp .ne 13, 3) := by decide +kernel
theorem dX7_price_99 : decode cX7_price 99 = .ok (.aload_n 0, 1) := by decide +kernel
theorem dX7_price_100 : decode cX7_price 100 = .ok (.getfield 45, 3) := by decide +kernel
theorem dX7_price_103 : decode cX7_price 103 = .ok (.iload_n 1, 1) := by decide +kernel
theorem dX7_price_104 : decode cX7_price 104 = .ok (.dup2, 1) := by decide +kernel
theorem dX7_price_105 : decode cX7_price 105 = .ok (.iaload, 1) := by decide +kernel
theorem dX7_price_106 : decode cX7_price 106 = .ok (.iconst 1, 1) := by decide +kernel
theorem dX7_price_107 : decode cX7_price 107 = .ok (.iadd, 1) := by decide +kernel
theorem dX7_price_108 : decode cX7_price 108 = .ok (.iastore, 1) := by decide +kernel
theorem dX7_price_109 : decode cX7_price 109 = .ok (.aload_n 0, 1) := by decide +kernel
theorem dX7_price_110 : decode cX7_price 110 = .ok (.getfield 48, 3) := by decide +kernel
theorem dX7_price_113 : decode cX7_price 113 = .ok (.bipush 20, 2) := by decide +kernel
theorem dX7_price_115 : decode cX7_price 115 = .ok (.iload_n 1, 1) := by decide +kernel
theorem dX7_price_116 : decode cX7_price 116 = .ok (.imul, 1) := by decide +kernel
theorem dX7_price_117 : decode cX7_price 117 = .ok (.iload 4, 2) := by decide +kernel
theorem dX7_price_119 : decode cX7_price 119 = .ok (.iadd, 1) := by decide +kernel
theorem dX7_price_120 : decode cX7_price 120 = .ok (.iload_n 2, 1) := by decide +kernel
theorem dX7_price_121 : decode cX7_price 121 = .ok (.iastore, 1) := by decide +kernel
theorem dX7_price_122 : decode cX7_price 122 = .ok (.aload_n 0, 1) := by decide +kernel
theorem dX7_price_123 : decode cX7_price 123 = .ok (.getfield 51, 3) := by decide +kernel
theorem dX7_price_126 : decode cX7_price 126 = .ok (.bipush 20, 2) := by decide +kernel
theorem dX7_price_128 : decode cX7_price 128 = .ok (.iload_n 1, 1) := by decide +kernel
theorem dX7_price_129 : decode cX7_price 129 = .ok (.imul, 1) := by decide +kernel
theorem dX7_price_130 : decode cX7_price 130 = .ok (.iload 4, 2) := by decide +kernel
theorem dX7_price_132 : decode cX7_price 132 = .ok (.iadd, 1) := by decide +kernel
theorem dX7_price_133 : decode cX7_price 133 = .ok (.iload_n 3, 1) := by decide +kernel
theorem dX7_price_134 : decode cX7_price 134 = .ok (.iastore, 1) := by decide +kernel
theorem dX7_price_135 : decode cX7_price 135 = .ok (.aload_n 0, 1) := by decide +kernel
theorem dX7_price_136 : decode cX7_price 136 = .ok (.getfield 45, 3) := by decide +kernel
theorem dX7_price_139 : decode cX7_price 139 = .ok (.iload_n 1, 1) := by decide +kernel
theorem dX7_price_140 : decode cX7_price 140 = .ok (.iaload, 1) := by decide +kernel
theorem dX7_price_141 : decode cX7_price 141 = .ok (.ireturn, 1) := by decide +kernel
theorem dX7_costOf_0 : decode cX7_costOf 0 = .ok (.iconst (-1), 1) := by decide +kernel
theorem dX7_costOf_1 : decode cX7_costOf 1 = .ok (.istore_n 3, 1) := by decide +kernel
theorem dX7_costOf_2 : decode cX7_costOf 2 = .ok (.iconst 0, 1) := by decide +kernel
theorem dX7_costOf_3 : decode cX7_costOf 3 = .ok (.istore 4, 2) := by decide +kernel
theorem dX7_costOf_5 : decode cX7_costOf 5 = .ok (.iload 4, 2) := by decide +kernel
theorem dX7_costOf_7 : decode cX7_costOf 7 = .ok (.aload_n 0, 1) := by decide +kernel
theorem dX7_costOf_8 : decode cX7_costOf 8 = .ok (.getfield 45, 3) := by decide +kernel
theorem dX7_costOf_11 : decode cX7_costOf 11 = .ok (.iload_n 1, 1) := by decide +kernel
theorem dX7_costOf_12 : decode cX7_costOf 12 = .ok (.iaload, 1) := by decide +kernel
theorem dX7_costOf_13 : decode cX7_costOf 13 = .ok (.if_icmp .ge 53, 3) := by decide +kernel
theorem dX7_costOf_16 : decode cX7_costOf 16 = .ok (.aload_n 0, 1) := by decide +kernel
theorem dX7_costOf_17 : decode cX7_costOf 17 = .ok (.getfield 48, 3) := by decide +kernel
theorem dX7_costOf_20 : decode cX7_costOf 20 = .ok (.bipush 20, 2) := by decide +kernel
theorem dX7_costOf_22 : decode cX7_costOf 22 = .ok (.iload_n 1, 1) := by decide +kernel
theorem dX7_costOf_23 : decode cX7_costOf 23 = .ok (.imul, 1) := by decide +kernel
theorem dX7_costOf_24 : decode cX7_costOf 24 = .ok (.iload 4, 2) := by decide +kernel
theorem dX7_costOf_26 : decode cX7_costOf 26 = .ok (.iadd, 1) := by decide +kernel
theorem dX7_costOf_27 : decode cX7_costOf 27 = .ok (.iaload, 1) := by decide +kernel
theorem dX7_costOf_28 : decode cX7_costOf 28 = .ok (.istore 5, 2) := by decide +kernel
theorem dX7_costOf_30 : decode cX7_costOf 30 = .ok (.iload 5, 2) := by decide +kernel
theorem dX7_costOf_32 : decode cX7_costOf 32 = .ok (.iload_n 2, 1) := by decide +kernel
theorem dX7_costOf_33 : decode cX7_costOf 33 = .ok (.if_icmp .gt 27, 3) := by decide +kernel
theorem dX7_costOf_36 : decode cX7_costOf 36 = .ok (.iload_n 3, 1) := by decide +kernel
theorem dX7_costOf_37 : decode cX7_costOf 37 = .ok (.iconst (-1), 1) := by decide +kernel
theorem dX7_costOf_38 : decode cX7_costOf 38 = .ok (.if_icmp .eq 19, 3) := by decide +kernel
theorem dX7_costOf_41 : decode cX7_costOf 41 = .ok (.iload 5, 2) := by decide +kernel
theorem dX7_costOf_43 : decode cX7_costOf 43 = .ok (.aload_n 0, 1) := by decide +kernel
theorem dX7_costOf_44 : decode cX7_costOf 44 = .ok (.getfield 48, 3) := by decide +kernel
theorem dX7_costOf_47 : decode cX7_costOf 47 = .ok (.bipush 20, 2) := by decide +kernel
theorem dX7_costOf_49 : decode cX7_costOf 49 = .ok (.iload_n 1, 1) := by decide +kernel
theorem dX7_costOf_50 : decode cX7_costOf 50 = .ok (.imul, 1) := by decide +kernel
theorem dX7_costOf_51 : decode cX7_costOf 51 = .ok (.iload_n 3, 1) := by decide +kernel
theorem dX7_costOf_52 : decode cX7_costOf 52 = .ok (.iadd, 1) := by decide +kernel
theorem dX7_costOf_53 : decode cX7_costOf 53 = .ok (.iaload, 1) := by decide +kernel
theorem dX7_costOf_54 : decode cX7_costOf 54 = .ok (.if_icmp .le 6, 3) := by decide +kernel
theorem dX7_costOf_57 : decode cX7_costOf 57 = .ok (.iload 4, 2) := by decide +kernel
theorem dX7_costOf_59 : decode cX7_costOf 59 = .ok (.istore_n 3, 1) := by decide +kernel
theorem dX7_costOf_60 : decode cX7_costOf 60 = .ok (.iinc 4 1, 3) := by decide +kernel
theorem dX7_costOf_63 : decode cX7_costOf 63 = .ok (.goto (-58), 3) := by decide +kernel
theorem dX7_costOf_66 : decode cX7_costOf 66 = .ok (.iload_n 3, 1) := by decide +kernel
theorem dX7_costOf_67 : decode cX7_costOf 67 = .ok (.iconst (-1), 1) := by decide +kernel
theorem dX7_costOf_68 : decode cX7_costOf 68 = .ok (.if_icmp .ne 7, 3) := by decide +kernel
theorem dX7_costOf_71 : decode cX7_costOf 71 = .ok (.iconst 0, 1) := by decide +kernel
theorem dX7_costOf_72 : decode cX7_costOf 72 = .ok (.goto 14, 3) := by decide +kernel
theorem dX7_costOf_75 : decode cX7_costOf 75 = .ok (.aload_n 0, 1) := by decide +kernel
theorem dX7_costOf_76 : decode cX7_costOf 76 = .ok (.getfield 51, 3) := by decide +kernel
theorem dX7_costOf_79 : decode cX7_costOf 79 = .ok (.bipush 20, 2) := by decide +kernel
theorem dX7_costOf_81 : decode cX7_costOf 81 = .ok (.iload_n 1, 1) := by decide +kernel
theorem dX7_costOf_82 : decode cX7_costOf 82 = .ok (.imul, 1) := by decide +kernel
theorem dX7_costOf_83 : decode cX7_costOf 83 = .ok (.iload_n 3, 1) := by decide +kernel
theorem dX7_costOf_84 : decode cX7_costOf 84 = .ok (.iadd, 1) := by decide +kernel
theorem dX7_costOf_85 : decode cX7_costOf 85 = .ok (.iaload, 1) := by decide +kernel
theorem dX7_costOf_86 : decode cX7_costOf 86 = .ok (.ireturn, 1) := by decide +kernel
theorem dX7_costs_0 : decode cX7_costs 0 = .ok (.iload_n 1, 1) := by decide +kernel
theorem dX7_costs_1 : decode cX7_costs 1 = .ok (.i2l, 1) := by decide +kernel
theorem dX7_costs_2 : decode cX7_costs 2 = .ok (.lconst 0, 1) := by decide +kernel
theorem dX7_costs_3 : decode cX7_costs 3 = .ok (.ldc2_w 151, 3) := by decide +kernel
theorem dX7_costs_6 : decode cX7_costs 6 = .ok (.invokestatic 133, 3) := by decide +kernel
theorem dX7_costs_9 : decode cX7_costs 9 = .ok (.ifCond .ne 6, 3) := by decide +kernel
theorem dX7_costs_12 : decode cX7_costs 12 = .ok (.bipush (-101), 2) := by decide +kernel
theorem dX7_costs_14 : decode cX7_costs 14 = .ok (.ireturn, 1) := by decide +kernel
theorem dX7_costs_15 : decode cX7_costs 15 = .ok (.iload_n 2, 1) := by decide +kernel
theorem dX7_costs_16 : decode cX7_costs 16 = .ok (.i2l, 1) := by decide +kernel
theorem dX7_costs_17 : decode cX7_costs 17 = .ok (.lconst 0, 1) := by decide +kernel
theorem dX7_costs_18 : decode cX7_costs 18 = .ok (.ldc2_w 163, 3) := by decide +kernel
theorem dX7_costs_21 : decode cX7_costs 21 = .ok (.invokestatic 133, 3) := by decide +kernel
theorem dX7_costs_24 : decode cX7_costs 24 = .ok (.ifCond .eq 12, 3) := by decide +kernel
theorem dX7_costs_27 : decode cX7_costs 27 = .ok (.aload_n 0, 1) := by decide +kernel
theorem dX7_costs_28 : decode cX7_costs 28 = .ok (.iload_n 1, 1) := by decide +kernel
theorem dX7_costs_29 : decode cX7_costs 29 = .ok (.iload_n 2, 1) := by decide +kernel
theorem dX7_costs_30 : decode cX7_costs 30 = .ok (.invokevirtual 167, 3) := by decide +kernel
theorem dX7_costs_33 : decode cX7_costs 33 = .ok (.goto 5, 3) := by decide +kernel
theorem dX7_costs_36 : decode cX7_costs 36 = .ok (.bipush (-102), 2) := by decide +kernel
theorem dX7_costs_38 : decode cX7_costs 38 = .ok (.ireturn, 1) := by decide +kernel
theorem dX7_rate_0 : decode cX7_rate 0 = .ok (.iload_n 1, 1) := by decide +kernel
theorem dX7_rate_1 : decode cX7_rate 1 = .ok (.i2l, 1) := by decide +kernel
theorem dX7_rate_2 : decode cX7_rate 2 = .ok (.lconst 0, 1) := by decide +kernel
theorem dX7_rate_3 : decode cX7_rate 3 = .ok (.ldc2_w 171, 3) := by decide +kernel
theorem dX7_rate_6 : decode cX7_rate 6 = .ok (.invokestatic 133, 3) := by decide +kernel
theorem dX7_rate_9 : decode cX7_rate 9 = .ok (.ifCond .ne 6, 3) := by decide +kernel
theorem dX7_rate_12 : decode cX7_rate 12 = .ok (.bipush (-101), 2) := by decide +kernel
theorem dX7_rate_14 : decode cX7_rate 14 = .ok (.ireturn, 1) := by decide +kernel
theorem dX7_rate_15 : decode cX7_rate 15 = .ok (.iload_n 1, 1) := by decide +kernel
theorem dX7_rate_16 : decode cX7_rate 16 = .ok (.ifCond .eq 13, 3) := by decide +kernel
theorem dX7_rate_19 : decode cX7_rate 19 = .ok (.iload_n 1, 1) := by decide +kernel
theorem dX7_rate_20 : decode cX7_rate 20 = .ok (.iconst 2, 1) := by decide +kernel
theorem dX7_rate_21 : decode cX7_rate 21 = .ok (.if_icmp .eq 8, 3) := by decide +kernel
theorem dX7_rate_24 : decode cX7_rate 24 = .ok (.iload_n 1, 1) := by decide +kernel
theorem dX7_rate_25 : decode cX7_rate 25 = .ok (.iconst 4, 1) := by decide +kernel
theorem dX7_rate_26 : decode cX7_rate 26 = .ok (.if_icmp .ne 9, 3) := by decide +kernel
theorem dX7_rate_29 : decode cX7_rate 29 = .ok (.sipush 1000, 3) := by decide +kernel
theorem dX7_rate_32 : decode cX7_rate 32 = .ok (.goto 16, 3) := by decide +kernel
theorem dX7_rate_35 : decode cX7_rate 35 = .ok (.iload_n 1, 1) := by decide +kernel
theorem dX7_rate_36 : decode cX7_rate 36 = .ok (.iconst 1, 1) := by decide +kernel
theorem dX7_rate_37 : decode cX7_rate 37 = .ok (.if_icmp .ne 8, 3) := by decide +kernel
theorem dX7_rate_40 : decode cX7_rate 40 = .ok (.ldc 173, 2) := by decide +kernel
theorem dX7_rate_42 : decode cX7_rate 42 = .ok (.goto 6, 3) := by decide +kernel
theorem dX7_rate_45 : decode cX7_rate 45 = .ok (.sipush 10000, 3) := by decide +kernel
theorem dX7_rate_48 : decode cX7_rate 48 = .ok (.istore_n 3, 1) := by decide +kernel
theorem dX7_rate_49 : decode cX7_rate 49 = .ok (.iload_n 2, 1) := by decide +kernel
theorem dX7_rate_50 : decode cX7_rate 50 = .ok (.i2l, 1) := by decide +kernel
theorem dX7_rate_51 : decode cX7_rate 51 = .ok (.lconst 0, 1) := by decide +kernel
theorem dX7_rate_52 : decode cX7_rate 52 = .ok (.iload_n 3, 1) := by decide +kernel
theorem dX7_rate_53 : decode cX7_rate 53 = .ok (.i2l, 1) := by decide +kernel
theorem dX7_rate_54 : decode cX7_rate 54 = .ok (.invokestatic 133, 3) := by decide +kernel
theorem dX7_rate_57 : decode cX7_rate 57 = .ok (.ifCond .ne 6, 3) := by decide +kernel
theorem dX7_rate_60 : decode cX7_rate 60 = .ok (.bipush (-102), 2) := by decide +kernel
theorem dX7_rate_62 : decode cX7_rate 62 = .ok (.ireturn, 1) := by decide +kernel
theorem dX7_rate_63 : decode cX7_rate 63 = .ok (.aload_n 0, 1) := by decide +kernel
theorem dX7_rate_64 : decode cX7_rate 64 = .ok (.getfield 54, 3) := by decide +kernel
theorem dX7_rate_67 : decode cX7_rate 67 = .ok (.iload_n 1, 1) := by decide +kernel
theorem dX7_rate_68 : decode cX7_rate 68 = .ok (.iaload, 1) := by decide +kernel
theorem dX7_rate_69 : decode cX7_rate 69 = .ok (.istore 4, 2) := by decide +kernel
theorem dX7_rate_71 : decode cX7_rate 71 = .ok (.aload_n 0, 1) := by decide +kernel
theorem dX7_rate_72 : decode cX7_rate 72 = .ok (.getfield 54, 3) := by decide +kernel
theorem dX7_rate_75 : decode cX7_rate 75 = .ok (.iload_n 1, 1) := by decide +kernel
theorem dX7_rate_76 : decode cX7_rate 76 = .ok (.iload_n 2, 1) := by decide +kernel
theorem dX7_rate_77 : decode cX7_rate 77 = .ok (.iastore, 1) := by decide +kernel
theorem dX7_rate_78 : decode cX7_rate 78 = .ok (.iload 4, 2) := by decide +kernel
theorem dX7_rate_80 : decode cX7_rate 80 = .ok (.ireturn, 1) := by decide +kernel
theorem dX7_days_0 : decode cX7_days 0 = .ok (.iload_n 1, 1) := by decide +kernel
theorem dX7_days_1 : decode cX7_days 1 = .ok (.i2l, 1) := by decide +kernel
theorem dX7_days_2 : decode cX7_days 2 = .ok (.lconst 1, 1) := by decide +kernel
theorem dX7_days_3 : decode cX7_days 3 = .ok (.ldc2_w 161, 3) := by decide +kernel
theorem dX7_days_6 : decode cX7_days 6 = .ok (.invokestatic 133, 3) := by decide +kernel
theorem dX7_days_9 : decode cX7_days 9 = .ok (.ifCond .eq 15, 3) := by decide +kernel
theorem dX7_days_12 : decode cX7_days 12 = .ok (.aload_n 0, 1) := by decide +kernel
theorem dX7_days_13 : decode cX7_days 13 = .ok (.getfield 174, 3) := by decide +kernel
theorem dX7_days_16 : decode cX7_days 16 = .ok (.iload_n 1, 1) := by decide +kernel
theorem dX7_days_17 : decode cX7_days 17 = .ok (.iadd, 1) := by decide +kernel
theorem dX7_days_18 : decode cX7_days 18 = .ok (.sipush 10000, 3) := by decide +kernel
theorem dX7_days_21 : decode cX7_days 21 = .ok (.if_icmp .le 6, 3) := by decide +kernel
theorem dX7_days_24 : decode cX7_days 24 = .ok (.bipush (-102), 2) := by decide +kernel
theorem dX7_days_26 : decode cX7_days 26 = .ok (.ireturn, 1) := by decide +kernel
theorem dX7_days_27 : decode cX7_days 27 = .ok (.aload_n 0, 1) := by decide +kernel
theorem dX7_days_28 : decode cX7_days 28 = .ok (.dup, 1) := by decide +kernel
theorem dX7_days_29 : decode cX7_days 29 = .ok (.getfield 174, 3) := by decide +kernel
theorem dX7_days_32 : decode cX7_days 32 = .ok (.iload_n 1, 1) := by decide +kernel
theorem dX7_days_33 : decode cX7_days 33 = .ok (.iadd, 1) := by decide +kernel
theorem dX7_days_34 : decode cX7_days 34 = .ok (.putfield 174, 3) := by decide +kernel
theorem dX7_days_37 : decode cX7_days 37 = .ok (.aload_n 0, 1) := by decide +kernel
theorem dX7_days_38 : decode cX7_days 38 = .ok (.getfield 174, 3) := by decide +kernel
theorem dX7_days_41 : decode cX7_days 41 = .ok (.ireturn, 1) := by decide +kernel
theorem dX7_overX_0 : decode cX7_overX 0 = .ok (.iload_n 0, 1) := by decide +kernel
theorem dX7_overX_1 : decode cX7_overX 1 = .ok (.ifCond .ne 7, 3) := by decide +kernel
theorem dX7_overX_4 : decode cX7_overX 4 = .ok (.iconst (-1), 1) := by decide +kernel
theorem dX7_overX_5 : decode cX7_overX 5 = .ok (.goto 13, 3) := by decide +kernel
theorem dX7_overX_8 : decode cX7_overX 8 = .ok (.iload_n 0, 1) := by decide +kernel
theorem dX7_overX_9 : decode cX7_overX 9 = .ok (.iconst 1, 1) := by decide +kernel
theorem dX7_overX_10 : decode cX7_overX 10 = .ok (.if_icmp .ne 7, 3) := by decide +kernel
theorem dX7_overX_13 : decode cX7_overX 13 = .ok (.iconst 1, 1) := by decide +kernel
theorem dX7_overX_14 : decode cX7_overX 14 = .ok (.goto 4, 3) := by decide +kernel
theorem dX7_overX_17 : decode cX7_overX 17 = .ok (.iconst 0, 1) := by decide +kernel
theorem dX7_overX_18 : decode cX7_overX 18 = .ok (.ireturn, 1) := by decide +kernel
theorem dX7_overY_0 : decode cX7_overY 0 = .ok (.iload_n 0, 1) := by decide +kernel
theorem dX7_overY_1 : decode cX7_overY 1 = .ok (.iconst 2, 1) := by decide +kernel
theorem dX7_overY_2 : decode cX7_overY 2 = .ok (.if_icmp .ne 7, 3) := by decide +kernel
theorem dX7_overY_5 : decode cX7_overY 5 = .ok (.iconst (-1), 1) := by decide +kernel
theorem dX7_overY_6 : decode cX7_overY 6 = .ok (.goto 13, 3) := by decide +kernel
theorem dX7_overY_9 : decode cX7_overY 9 = .ok (.iload_n 0, 1) := by decide +kernel
theorem dX7_overY_10 : decode cX7_overY 10 = .ok (.iconst 3, 1) := by decide +kernel
theorem dX7_overY_11 : decode cX7_overY 11 = .ok (.if_icmp .ne 7, 3) := by decide +kernel
theorem dX7_overY_14 : decode cX7_overY 14 = .ok (.iconst 1, 1) := by decide +kernel
theorem dX7_overY_15 : decode cX7_overY 15 = .ok (.goto 4, 3) := by decide +kernel
theorem dX7_overY_18 : decode cX7_overY 18 = .ok (.iconst 0, 1) := by decide +kernel
theorem dX7_overY_19 : decode cX7_overY 19 = .ok (.ireturn, 1) := by decide +kernel
theorem dX7_beside_0 : decode cX7_beside 0 = .ok (.iload_n 1, 1) := by decide +kernel
theorem dX7_beside_1 : decode cX7_beside 1 = .ok (.bipush 16, 2) := by decide +kernel
theorem dX7_beside_3 : decode cX7_beside 3 = .ok (.irem, 1) := by decide +kernel
theorem dX7_beside_4 : decode cX7_beside 4 = .ok (.iload_n 2, 1) := by decide +kernel
theorem dX7_beside_5 : decode cX7_beside 5 = .ok (.invokestatic 177, 3) := by decide +kernel
theorem dX7_beside_8 : decode cX7_beside 8 = .ok (.iadd, 1) := by decide +kernel
theorem dX7_beside_9 : decode cX7_beside 9 = .ok (.istore_n 3, 1) := by decide +kernel
theorem dX7_beside_10 : decode cX7_beside 10 = .ok (.iload_n 1, 1) := by decide +kernel
theorem dX7_beside_11 : decode cX7_beside 11 = .ok (.bipush 16, 2) := by decide +kernel
theorem dX7_beside_13 : decode cX7_beside 13 = .ok (.idiv, 1) := by decide +kernel
theorem dX7_beside_14 : decode cX7_beside 14 = .ok (.iload_n 2, 1) := by decide +kernel
theorem dX7_beside_15 : decode cX7_beside 15 = .ok (.invokestatic 181, 3) := by decide +kernel
theorem dX7_beside_18 : decode cX7_beside 18 = .ok (.iadd, 1) := by decide +kernel
theorem dX7_beside_19 : decode cX7_beside 19 = .ok (.istore 4, 2) := by decide +kernel
theorem dX7_beside_21 : decode cX7_beside 21 = .ok (.aload_n 0, 1) := by decide +kernel
theorem dX7_beside_22 : decode cX7_beside 22 = .ok (.iload_n 3, 1) := by decide +kernel
theorem dX7_beside_23 : decode cX7_beside 23 = .ok (.iload 4, 2) := by decide +kernel
theorem dX7_beside_25 : decode cX7_beside 25 = .ok (.invokevirtual 143, 3) := by decide +kernel
theorem dX7_beside_28 : decode cX7_beside 28 = .ok (.ifCond .eq 13, 3) := by decide +kernel
theorem dX7_beside_31 : decode cX7_beside 31 = .ok (.bipush 16, 2) := by decide +kernel
theorem dX7_beside_33 : decode cX7_beside 33 = .ok (.iload 4, 2) := by decide +kernel
theorem dX7_beside_35 : decode cX7_beside 35 = .ok (.imul, 1) := by decide +kernel
theorem dX7_beside_36 : decode cX7_beside 36 = .ok (.iload_n 3, 1) := by decide +kernel
theorem dX7_beside_37 : decode cX7_beside 37 = .ok (.iadd, 1) := by decide +kernel
theorem dX7_beside_38 : decode cX7_beside 38 = .ok (.goto 4, 3) := by decide +kernel
theorem dX7_beside_41 : decode cX7_beside 41 = .ok (.iconst (-1), 1) := by decide +kernel
theorem dX7_beside_42 : decode cX7_beside 42 = .ok (.ireturn, 1) := by decide +kernel
theorem dX7_isLeft_0 : decode cX7_isLeft 0 = .ok (.aload_n 0, 1) := by decide +kernel
theorem dX7_isLeft_1 : decode cX7_isLeft 1 = .ok (.getfield 16, 3) := by decide +kernel
theorem dX7_isLeft_4 : decode cX7_isLeft 4 = .ok (.iload_n 1, 1) := by decide +kernel
theorem dX7_isLeft_5 : decode cX7_isLeft 5 = .ok (.iaload, 1) := by decide +kernel
theorem dX7_isLeft_6 : decode cX7_isLeft 6 = .ok (.iload_n 2, 1) := by decide +kernel
theorem dX7_isLeft_7 : decode cX7_isLeft 7 = .ok (.if_icmp .ne 16, 3) := by decide +kernel
theorem dX7_isLeft_10 : decode cX7_isLeft 10 = .ok (.aload_n 0, 1) := by decide +kernel
theorem dX7_isLeft_11 : decode cX7_isLeft 11 = .ok (.getfield 30, 3) := by decide +kernel
theorem dX7_isLeft_14 : decode cX7_isLeft 14 = .ok (.iload_n 1, 1) := by decide +kernel
theorem dX7_isLeft_15 : decode cX7_isLeft 15 = .ok (.iaload, 1) := by decide +kernel
theorem dX7_isLeft_16 : decode cX7_isLeft 16 = .ok (.ifCond .ne 7, 3) := by decide +kernel
theorem dX7_isLeft_19 : decode cX7_isLeft 19 = .ok (.iconst 1, 1) := by decide +kernel
theorem dX7_isLeft_20 : decode cX7_isLeft 20 = .ok (.goto 4, 3) := by decide +kernel
theorem dX7_isLeft_23 : decode cX7_isLeft 23 = .ok (.iconst 0, 1) := by decide +kernel
theorem dX7_isLeft_24 : decode cX7_isLeft 24 = .ok (.ireturn, 1) := by decide +kernel
theorem dX7_spread_0 : decode cX7_spread 0 = .ok (.iconst 1, 1) := by decide +kernel
theorem dX7_spread_1 : decode cX7_spread 1 = .ok (.istore_n 3, 1) := by decide +kernel
theorem dX7_spread_2 : decode cX7_spread 2 = .ok (.aload_n 0, 1) := by decide +kernel
theorem dX7_spread_3 : decode cX7_spread 3 = .ok (.getfield 115, 3) := by decide +kernel
theorem dX7_spread_6 : decode cX7_spread 6 = .ok (.iconst 0, 1) := by decide +kernel
theorem dX7_spread_7 : decode cX7_spread 7 = .ok (.iload_n 1, 1) := by decide +kernel
theorem dX7_spread_8 : decode cX7_spread 8 = .ok (.iastore, 1) := by decide +kernel
theorem dX7_spread_9 : decode cX7_spread 9 = .ok (.aload_n 0, 1) := by decide +kernel
theorem dX7_spread_10 : decode cX7_spread 10 = .ok (.getfield 112, 3) := by decide +kernel
theorem dX7_spread_13 : decode cX7_spread 13 = .ok (.iload_n 1, 1) := by decide +kernel
theorem dX7_spread_14 : decode cX7_spread 14 = .ok (.aload_n 0, 1) := by decide +kernel
theorem dX7_spread_15 : decode cX7_spread 15 = .ok (.getfield 184, 3) := by decide +kernel
theorem dX7_spread_18 : decode cX7_spread 18 = .ok (.iastore, 1) := by decide +kernel
theorem dX7_spread_19 : decode cX7_spread 19 = .ok (.iconst 0, 1) := by decide +kernel
theorem dX7_spread_20 : decode cX7_spread 20 = .ok (.istore 4, 2) := by decide +kernel
theorem dX7_spread_22 : decode cX7_spread 22 = .ok (.iload 4, 2) := by decide +kernel
theorem dX7_spread_24 : decode cX7_spread 24 = .ok (.iload_n 3, 1) := by decide +kernel
theorem dX7_spread_25 : decode cX7_spread 25 = .ok (.if_icmp .ge 87, 3) := by decide +kernel
theorem dX7_spread_28 : decode cX7_spread 28 = .ok (.iconst 0, 1) := by decide +kernel
theorem dX7_spread_29 : decode cX7_spread 29 = .ok (.istore 5, 2) := by decide +kernel
theorem dX7_spread_31 : decode cX7_spread 31 = .ok (.iload 5, 2) := by decide +kernel
theorem dX7_spread_33 : decode cX7_spread 33 = .ok (.iconst 4, 1) := by decide +kernel
theorem dX7_spread_34 : decode cX7_spread 34 = .ok (.if_icmp .ge 72, 3) := by decide +kernel
theorem dX7_spread_37 : decode cX7_spread 37 = .ok (.aload_n 0, 1) := by decide +kernel
theorem dX7_spread_38 : decode cX7_spread 38 = .ok (.aload_n 0, 1) := by decide +kernel
theorem dX7_spread_39 : decode cX7_spread 39 = .ok (.getfield 115, 3) := by decide +kernel
theorem dX7_spread_42 : decode cX7_spread 42 = .ok (.iload 4, 2) := by decide +kernel
theorem dX7_spread_44 : decode cX7_spread 44 = .ok (.iaload, 1) := by decide +kernel
theorem dX7_spread_45 : decode cX7_spread 45 = .ok (.iload 5, 2) := by decide +kernel
theorem dX7_spread_47 : decode cX7_spread 47 = .ok (.invokevirtual 187, 3) := by decide +kernel
theorem dX7_spread_50 : decode cX7_spread 50 = .ok (.istore 6, 2) := by decide +kernel
theorem dX7_spread_52 : decode cX7_spread 52 = .ok (.iload 6, 2) := by decide +kernel
theorem dX7_spread_54 : decode cX7_spread 54 = .ok (.iconst (-1), 1) := by decide +kernel
theorem dX7_spread_55 : decode cX7_spread 55 = .ok (.if_icmp .eq 45, 3) := by decide +kernel
theorem dX7_spread_58 : decode cX7_spread 58 = .ok (.aload_n 0, 1) := by decide +kernel
theorem dX7_spread_59 : decode cX7_spread 59 = .ok (.iload 6, 2) := by decide +kernel
theorem dX7_spread_61 : decode cX7_spread 61 = .ok (.iload_n 2, 1) := by decide +kernel
theorem dX7_spread_62 : decode cX7_spread 62 = .ok (.invokevirtual 190, 3) := by decide +kernel
theorem dX7_spread_65 : decode cX7_spread 65 = .ok (.ifCond .eq 35, 3) := by decide +kernel
theorem dX7_spread_68 : decode cX7_spread 68 = .ok (.aload_n 0, 1) := by decide +kernel
theorem dX7_spread_69 : decode cX7_spread 69 = .ok (.getfield 112, 3) := by decide +kernel
theorem dX7_spread_72 : decode cX7_spread 72 = .ok (.iload 6, 2) := by decide +kernel
theorem dX7_spread_74 : decode cX7_spread 74 = .ok (.iaload, 1) := by decide +kernel
theorem dX7_spread_75 : decode cX7_spread 75 = .ok (.ifCond .ne 25, 3) := by decide +kernel
theorem dX7_spread_78 : decode cX7_spread 78 = .ok (.aload_n 0, 1) := by decide +kernel
theorem dX7_spread_79 : decode cX7_spread 79 = .ok (.getfield 112, 3) := by decide +kernel
theorem dX7_spread_82 : decode cX7_spread 82 = .ok (.iload 6, 2) := by decide +kernel
theorem dX7_spread_84 : decode cX7_spread 84 = .ok (.aload_n 0, 1) := by decide +kernel
theorem dX7_spread_85 : decode cX7_spread 85 = .ok (.getfield 184, 3) := by decide +kernel
theorem dX7_spread_88 : decode cX7_spread 88 = .ok (.iastore, 1) := by decide +kernel
theorem dX7_spread_89 : decode cX7_spread 89 = .ok (.aload_n 0, 1) := by decide +kernel
theorem dX7_spread_90 : decode cX7_spread 90 = .ok (.getfield 115, 3) := by decide +kernel
theorem dX7_spread_93 : decode cX7_spread 93 = .ok (.iload_n 3, 1) := by decide +kernel
theorem dX7_spread_94 : decode cX7_spread 94 = .ok (.iload 6, 2) := by decide +kernel
theorem dX7_spread_96 : decode cX7_spread 96 = .ok (.iastore, 1) := by decide +kernel
theorem dX7_spread_97 : decode cX7_spread 97 = .ok (.iinc 3 1, 3) := by decide +kernel
theorem dX7_spread_100 : decode cX7_spread 100 = .ok (.iinc 5 1, 3) := by decide +kernel
theorem dX7_spread_103 : decode cX7_spread 103 = .ok (.goto (-72), 3) := by decide +kernel
theorem dX7_spread_106 : decode cX7_spread 106 = .ok (.iinc 4 1, 3) := by decide +kernel
theorem dX7_spread_109 : decode cX7_spread 109 = .ok (.goto (-87), 3) := by decide +kernel
theorem dX7_spread_112 : decode cX7_spread 112 = .ok (.aload_n 0, 1) := by decide +kernel
theorem dX7_spread_113 : decode cX7_spread 113 = .ok (.getfield 121, 3) := by decide +kernel
theorem dX7_spread_116 : decode cX7_spread 116 = .ok (.aload_n 0, 1) := by decide +kernel
theorem dX7_spread_117 : decode cX7_spread 117 = .ok (.getfield 184, 3) := by decide +kernel
theorem dX7_spread_120 : decode cX7_spread 120 = .ok (.iconst 1, 1) := by decide +kernel
theorem dX7_spread_121 : decode cX7_spread 121 = .ok (.isub, 1) := by decide +kernel
theorem dX7_spread_122 : decode cX7_spread 122 = .ok (.iload_n 3, 1) := by decide +kernel
theorem dX7_spread_123 : decode cX7_spread 123 = .ok (.iastore, 1) := by decide +kernel
theorem dX7_spread_124 : decode cX7_spread 124 = .ok (.return_, 1) := by decide +kernel
theorem dX7_divide_0 : decode cX7_divide 0 = .ok (.aload_n 0, 1) := by decide +kernel
theorem dX7_divide_1 : decode cX7_divide 1 = .ok (.iconst 0, 1) := by decide +kernel
theorem dX7_divide_2 : decode cX7_divide 2 = .ok (.putfield 184, 3) := by decide +kernel
theorem dX7_divide_5 : decode cX7_divide 5 = .ok (.iconst 0, 1) := by decide +kernel
theorem dX7_divide_6 : decode cX7_divide 6 = .ok (.istore_n 2, 1) := by decide +kernel
theorem dX7_divide_7 : decode cX7_divide 7 = .ok (.iload_n 2, 1) := by decide +kernel
theorem dX7_divide_8 : decode cX7_divide 8 = .ok (.sipush 256, 3) := by decide +kernel
theorem dX7_divide_11 : decode cX7_divide 11 = .ok (.if_icmp .ge 16, 3) := by decide +kernel
theorem dX7_divide_14 : decode cX7_divide 14 = .ok (.aload_n 0, 1) := by decide +kernel
theorem dX7_divide_15 : decode cX7_divide 15 = .ok (.getfield 112, 3) := by decide +kernel
theorem dX7_divide_18 : decode cX7_divide 18 = .ok (.iload_n 2, 1) := by decide +kernel
theorem dX7_divide_19 : decode cX7_divide 19 = .ok (.iconst 0, 1) := by decide +kernel
theorem dX7_divide_20 : decode cX7_divide 20 = .ok (.iastore, 1) := by decide +kernel
theorem dX7_divide_21 : decode cX7_divide 21 = .ok (.iinc 2 1, 3) := by decide +kernel
theorem dX7_divide_24 : decode cX7_divide 24 = .ok (.goto (-17), 3) := by decide +kernel
theorem dX7_divide_27 : decode cX7_divide 27 = .ok (.iconst 0, 1) := by decide +kernel
theorem dX7_divide_28 : decode cX7_divide 28 = .ok (.istore_n 2, 1) := by decide +kernel
theorem dX7_divide_29 : decode cX7_divide 29 = .ok (.iload_n 2, 1) := by decide +kernel
theorem dX7_divide_30 : decode cX7_divide 30 = .ok (.aload_n 0, 1) := by decide +kernel
theorem dX7_divide_31 : decode cX7_divide 31 = .ok (.getfield 13, 3) := by decide +kernel
theorem dX7_divide_34 : decode cX7_divide 34 = .ok (.if_icmp .ge 81, 3) := by decide +kernel
theorem dX7_divide_37 : decode cX7_divide 37 = .ok (.iconst 0, 1) := by decide +kernel
theorem dX7_divide_38 : decode cX7_divide 38 = .ok (.istore_n 3, 1) := by decide +kernel
theorem dX7_divide_39 : decode cX7_divide 39 = .ok (.iload_n 3, 1) := by decide +kernel
theorem dX7_divide_40 : decode cX7_divide 40 = .ok (.aload_n 0, 1) := by decide +kernel
theorem dX7_divide_41 : decode cX7_divide 41 = .ok (.getfield 7, 3) := by decide +kernel
theorem dX7_divide_44 : decode cX7_divide 44 = .ok (.if_icmp .ge 65, 3) := by decide +kernel
theorem dX7_divide_47 : decode cX7_divide 47 = .ok (.bipush 16, 2) := by decide +kernel
theorem dX7_divide_49 : decode cX7_divide 49 = .ok (.iload_n 2, 1) := by decide +kernel
theorem dX7_divide_50 : decode cX7_divide 50 = .ok (.imul, 1) := by decide +kernel
theorem dX7_divide_51 : decode cX7_divide 51 = .ok (.iload_n 3, 1) := by decide +kernel
theorem dX7_divide_52 : decode cX7_divide 52 = .ok (.iadd, 1) := by decide +kernel
theorem dX7_divide_53 : decode cX7_divide 53 = .ok (.istore 4, 2) := by decide +kernel
theorem dX7_divide_55 : decode cX7_divide 55 = .ok (.aload_n 0, 1) := by decide +kernel
theorem dX7_divide_56 : decode cX7_divide 56 = .ok (.iload 4, 2) := by decide +kernel
theorem dX7_divide_58 : decode cX7_divide 58 = .ok (.iload_n 1, 1) := by decide +kernel
theorem dX7_divide_59 : decode cX7_divide 59 = .ok (.invokevirtual 190, 3) := by decide +kernel
theorem dX7_divide_62 : decode cX7_divide 62 = .ok (.ifCond .eq 41, 3) := by decide +kernel
theorem dX7_divide_65 : decode cX7_divide 65 = .ok (.aload_n 0, 1) := by decide +kernel
theorem dX7_divide_66 : decode cX7_divide 66 = .ok (.getfield 112, 3) := by decide +kernel
theorem dX7_divide_69 : decode cX7_divide 69 = .ok (.iload 4, 2) := by decide +kernel
theorem dX7_divide_71 : decode cX7_divide 71 = .ok (.iaload, 1) := by decide +kernel
theorem dX7_divide_72 : decode cX7_divide 72 = .ok (.ifCond .ne 31, 3) := by decide +kernel
theorem dX7_divide_75 : decode cX7_divide 75 = .ok (.aload_n 0, 1) := by decide +kernel
theorem dX7_divide_76 : decode cX7_divide 76 = .ok (.getfield 118, 3) := by decide +kernel
theorem dX7_divide_79 : decode cX7_divide 79 = .ok (.aload_n 0, 1) := by decide +kernel
theorem dX7_divide_80 : decode cX7_divide 80 = .ok (.getfield 184, 3) := by decide +kernel
theorem dX7_divide_83 : decode cX7_divide 83 = .ok (.iload 4, 2) := by decide +kernel
theorem dX7_divide_85 : decode cX7_divide 85 = .ok (.iastore, 1) := by decide +kernel
theorem dX7_divide_86 : decode cX7_divide 86 = .ok (.aload_n 0, 1) := by decide +kernel
theorem dX7_divide_87 : decode cX7_divide 87 = .ok (.dup, 1) := by decide +kernel
theorem dX7_divide_88 : decode cX7_divide 88 = .ok (.getfield 184, 3) := by decide +kernel
theorem dX7_divide_91 : decode cX7_divide 91 = .ok (.iconst 1, 1) := by decide +kernel
theorem dX7_divide_92 : decode cX7_divide 92 = .ok (.iadd, 1) := by decide +kernel
theorem dX7_divide_93 : decode cX7_divide 93 = .ok (.putfield 184, 3) := by decide +kernel
theorem dX7_divide_96 : decode cX7_divide 96 = .ok (.aload_n 0, 1) := by decide +kernel
theorem dX7_divide_97 : decode cX7_divide 97 = .ok (.iload 4, 2) := by decide +kernel
theorem dX7_divide_99 : decode cX7_divide 99 = .ok (.iload_n 1, 1) := by decide +kernel
theorem dX7_divide_100 : decode cX7_divide 100 = .ok (.invokevirtual 193, 3) := by decide +kernel
theorem dX7_divide_103 : decode cX7_divide 103 = .ok (.iinc 3 1, 3) := by decide +kernel
theorem dX7_divide_106 : decode cX7_divide 106 = .ok (.goto (-67), 3) := by decide +kernel
theorem dX7_divide_109 : decode cX7_divide 109 = .ok (.iinc 2 1, 3) := by decide +kernel
theorem dX7_divide_112 : decode cX7_divide 112 = .ok (.goto (-83), 3) := by decide +kernel
theorem dX7_divide_115 : decode cX7_divide 115 = .ok (.return_, 1) := by decide +kernel
theorem dX7_mainOf_0 : decode cX7_mainOf 0 = .ok (.aload_n 0, 1) := by decide +kernel
theorem dX7_mainOf_1 : decode cX7_mainOf 1 = .ok (.getfield 33, 3) := by decide +kernel
theorem dX7_mainOf_4 : decode cX7_mainOf 4 = .ok (.iload_n 1, 1) := by decide +kernel
theorem dX7_mainOf_5 : decode cX7_mainOf 5 = .ok (.iaload, 1) := by decide +kernel
theorem dX7_mainOf_6 : decode cX7_mainOf 6 = .ok (.istore_n 2, 1) := by decide +kernel
theorem dX7_mainOf_7 : decode cX7_mainOf 7 = .ok (.iload_n 2, 1) := by decide +kernel
theorem dX7_mainOf_8 : decode cX7_mainOf 8 = .ok (.iconst (-1), 1) := by decide +kernel
theorem dX7_mainOf_9 : decode cX7_mainOf 9 = .ok (.if_icmp .eq 21, 3) := by decide +kernel
theorem dX7_mainOf_12 : decode cX7_mainOf 12 = .ok (.aload_n 0, 1) := by decide +kernel
theorem dX7_mainOf_13 : decode cX7_mainOf 13 = .ok (.getfield 112, 3) := by decide +kernel
theorem dX7_mainOf_16 : decode cX7_mainOf 16 = .ok (.iload_n 2, 1) := by decide +kernel
theorem dX7_mainOf_17 : decode cX7_mainOf 17 = .ok (.iaload, 1) := by decide +kernel
theorem dX7_mainOf_18 : decode cX7_mainOf 18 = .ok (.ifCond .le 12, 3) := by decide +kernel
theorem dX7_mainOf_21 : decode cX7_mainOf 21 = .ok (.aload_n 0, 1) := by decide +kernel
theorem dX7_mainOf_22 : decode cX7_mainOf 22 = .ok (.getfield 112, 3) := by decide +kernel
theorem dX7_mainOf_25 : decode cX7_mainOf 25 = .ok (.iload_n 2, 1) := by decide +kernel
theorem dX7_mainOf_26 : decode cX7_mainOf 26 = .ok (.iaload, 1) := by decide +kernel
theorem dX7_mainOf_27 : decode cX7_mainOf 27 = .ok (.iconst 1, 1) := by decide +kernel
theorem dX7_mainOf_28 : decode cX7_mainOf 28 = .ok (.isub, 1) := by decide +kernel
theorem dX7_mainOf_29 : decode cX7_mainOf 29 = .ok (.ireturn, 1) := by decide +kernel
theorem dX7_mainOf_30 : decode cX7_mainOf 30 = .ok (.iconst (-1), 1) := by decide +kernel
theorem dX7_mainOf_31 : decode cX7_mainOf 31 = .ok (.istore_n 3, 1) := by decide +kernel
theorem dX7_mainOf_32 : decode cX7_mainOf 32 = .ok (.iconst 0, 1) := by decide +kernel
theorem dX7_mainOf_33 : decode cX7_mainOf 33 = .ok (.istore 4, 2) := by decide +kernel
theorem dX7_mainOf_35 : decode cX7_mainOf 35 = .ok (.iload 4, 2) := by decide +kernel
theorem dX7_mainOf_37 : decode cX7_mainOf 37 = .ok (.aload_n 0, 1) := by decide +kernel
theorem dX7_mainOf_38 : decode cX7_mainOf 38 = .ok (.getfield 184, 3) := by decide +kernel
theorem dX7_mainOf_41 : decode cX7_mainOf 41 = .ok (.if_icmp .ge 37, 3) := by decide +kernel
theorem dX7_mainOf_44 : decode cX7_mainOf 44 = .ok (.iload_n 3, 1) := by decide +kernel
theorem dX7_mainOf_45 : decode cX7_mainOf 45 = .ok (.iconst (-1), 1) := by decide +kernel
theorem dX7_mainOf_46 : decode cX7_mainOf 46 = .ok (.if_icmp .eq 19, 3) := by decide +kernel
theorem dX7_mainOf_49 : decode cX7_mainOf 49 = .ok (.aload_n 0, 1) := by decide +kernel
theorem dX7_mainOf_50 : decode cX7_mainOf 50 = .ok (.getfield 121, 3) := by decide +kernel
theorem dX7_mainOf_53 : decode cX7_mainOf 53 = .ok (.iload 4, 2) := by decide +kernel
theorem dX7_mainOf_55 : decode cX7_mainOf 55 = .ok (.iaload, 1) := by decide +kernel
theorem dX7_mainOf_56 : decode cX7_mainOf 56 = .ok (.aload_n 0, 1) := by decide +kernel
theorem dX7_mainOf_57 : decode cX7_mainOf 57 = .ok (.getfield 121, 3) := by decide +kernel
theorem dX7_mainOf_60 : decode cX7_mainOf 60 = .ok (.iload_n 3, 1) := by decide +kernel
theorem dX7_mainOf_61 : decode cX7_mainOf 61 = .ok (.iaload, 1) := by decide +kernel
theorem dX7_mainOf_62 : decode cX7_mainOf 62 = .ok (.if_icmp .le 8, 3) := by decide +kernel
theorem dX7_mainOf_65 : decode cX7_mainOf 65 = .ok (.iload 4, 2) := by decide +kernel
theorem dX7_mainOf_67 : decode cX7_mainOf 67 = .ok (.goto 4, 3) := by decide +kernel
theorem dX7_mainOf_70 : decode cX7_mainOf 70 = .ok (.iload_n 3, 1) := by decide +kernel
theorem dX7_mainOf_71 : decode cX7_mainOf 71 = .ok (.istore_n 3, 1) := by decide +kernel
theorem dX7_mainOf_72 : decode cX7_mainOf 72 = .ok (.iinc 4 1, 3) := by decide +kernel
theorem dX7_mainOf_75 : decode cX7_mainOf 75 = .ok (.goto (-40), 3) := by decide +kernel
theorem dX7_mainOf_78 : decode cX7_mainOf 78 = .ok (.iload_n 3, 1) := by decide +kernel
theorem dX7_mainOf_79 : decode cX7_mainOf 79 = .ok (.ireturn, 1) := by decide +kernel
theorem dX7_hasWay_0 : decode cX7_hasWay 0 = .ok (.iconst 0, 1) := by decide +kernel
theorem dX7_hasWay_1 : decode cX7_hasWay 1 = .ok (.istore_n 2, 1) := by decide +kernel
theorem dX7_hasWay_2 : decode cX7_hasWay 2 = .ok (.iload_n 2, 1) := by decide +kernel
theorem dX7_hasWay_3 : decode cX7_hasWay 3 = .ok (.sipush 256, 3) := by decide +kernel
theorem dX7_hasWay_6 : decode cX7_hasWay 6 = .ok (.if_icmp .ge 70, 3) := by decide +kernel
theorem dX7_hasWay_9 : decode cX7_hasWay 9 = .ok (.iconst 0, 1) := by decide +kernel
theorem dX7_hasWay_10 : decode cX7_hasWay 10 = .ok (.istore_n 3, 1) := by decide +kernel
theorem dX7_hasWay_11 : decode cX7_hasWay 11 = .ok (.iload_n 3, 1) := by decide +kernel
theorem dX7_hasWay_12 : decode cX7_hasWay 12 = .ok (.iconst 4, 1) := by decide +kernel
theorem dX7_hasWay_13 : decode cX7_hasWay 13 = .ok (.if_icmp .ge 57, 3) := by decide +kernel
theorem dX7_hasWay_16 : decode cX7_hasWay 16 = .ok (.aload_n 0, 1) := by decide +kernel
theorem dX7_hasWay_17 : decode cX7_hasWay 17 = .ok (.getfield 112, 3) := by decide +kernel
theorem dX7_hasWay_20 : decode cX7_hasWay 20 = .ok (.iload_n 2, 1) := by decide +kernel
theorem dX7_hasWay_21 : decode cX7_hasWay 21 = .ok (.iaload, 1) := by decide +kernel
theorem dX7_hasWay_22 : decode cX7_hasWay 22 = .ok (.iload_n 1, 1) := by decide +kernel
theorem dX7_hasWay_23 : decode cX7_hasWay 23 = .ok (.iconst 1, 1) := by decide +kernel
theorem dX7_hasWay_24 : decode cX7_hasWay 24 = .ok (.iadd, 1) := by decide +kernel
theorem dX7_hasWay_25 : decode cX7_hasWay 25 = .ok (.if_icmp .ne 45, 3) := by decide +kernel
theorem dX7_hasWay_28 : decode cX7_hasWay 28 = .ok (.aload_n 0, 1) := by decide +kernel
theorem dX7_hasWay_29 : decode cX7_hasWay 29 = .ok (.iload_n 2, 1) := by decide +kernel
theorem dX7_hasWay_30 : decode cX7_hasWay 30 = .ok (.iload_n 3, 1) := by decide +kernel
theorem dX7_hasWay_31 : decode cX7_hasWay 31 = .ok (.invokevirtual 187, 3) := by decide +kernel
theorem dX7_hasWay_34 : decode cX7_hasWay 34 = .ok (.istore 4, 2) := by decide +kernel
theorem dX7_hasWay_36 : decode cX7_hasWay 36 = .ok (.iload 4, 2) := by decide +kernel
theorem dX7_hasWay_38 : decode cX7_hasWay 38 = .ok (.iconst (-1), 1) := by decide +kernel
theorem dX7_hasWay_39 : decode cX7_hasWay 39 = .ok (.if_icmp .eq 25, 3) := by decide +kernel
theorem dX7_hasWay_42 : decode cX7_hasWay 42 = .ok (.aload_n 0, 1) := by decide +kernel
theorem dX7_hasWay_43 : decode cX7_hasWay 43 = .ok (.getfield 23, 3) := by decide +kernel
theorem dX7_hasWay_46 : decode cX7_hasWay 46 = .ok (.iload 4, 2) := by decide +kernel
theorem dX7_hasWay_48 : decode cX7_hasWay 48 = .ok (.baload, 1) := by decide +kernel
theorem dX7_hasWay_49 : decode cX7_hasWay 49 = .ok (.ifCond .eq 15, 3) := by decide +kernel
theorem dX7_hasWay_52 : decode cX7_hasWay 52 = .ok (.aload_n 0, 1) := by decide +kernel
theorem dX7_hasWay_53 : decode cX7_hasWay 53 = .ok (.getfield 30, 3) := by decide +kernel
theorem dX7_hasWay_56 : decode cX7_hasWay 56 = .ok (.iload 4, 2) := by decide +kernel
theorem dX7_hasWay_58 : decode cX7_hasWay 58 = .ok (.iaload, 1) := by decide +kernel
theorem dX7_hasWay_59 : decode cX7_hasWay 59 = .ok (.ifCond .ne 5, 3) := by decide +kernel
theorem dX7_hasWay_62 : decode cX7_hasWay 62 = .ok (.iconst 1, 1) := by decide +kernel
theorem dX7_hasWay_63 : decode cX7_hasWay 63 = .ok (.ireturn, 1) := by decide +kernel
theorem dX7_hasWay_64 : decode cX7_hasWay 64 = .ok (.iinc 3 1, 3) := by decide +kernel
theorem dX7_hasWay_67 : decode cX7_hasWay 67 = .ok (.goto (-56), 3) := by decide +kernel
theorem dX7_hasWay_70 : decode cX7_hasWay 70 = .ok (.iinc 2 1, 3) := by decide +kernel
theorem dX7_hasWay_73 : decode cX7_hasWay 73 = .ok (.goto (-71), 3) := by decide +kernel
theorem dX7_hasWay_76 : decode cX7_hasWay 76 = .ok (.iconst 0, 1) := by decide +kernel
theorem dX7_hasWay_77 : decode cX7_hasWay 77 = .ok (.ireturn, 1) := by decide +kernel
theorem dX7_pricesOf_0 : decode cX7_pricesOf 0 = .ok (.lconst 0, 1) := by decide +kernel
theorem dX7_pricesOf_1 : decode cX7_pricesOf 1 = .ok (.lstore_n 2, 1) := by decide +kernel
theorem dX7_pricesOf_2 : decode cX7_pricesOf 2 = .ok (.iconst 0, 1) := by decide +kernel
theorem dX7_pricesOf_3 : decode cX7_pricesOf 3 = .ok (.istore 4, 2) := by decide +kernel
theorem dX7_pricesOf_5 : decode cX7_pricesOf 5 = .ok (.iload 4, 2) := by decide +kernel
theorem dX7_pricesOf_7 : decode cX7_pricesOf 7 = .ok (.sipush 256, 3) := by decide +kernel
theorem dX7_pricesOf_10 : decode cX7_pricesOf 10 = .ok (.if_icmp .ge 45, 3) := by decide +kernel
theorem dX7_pricesOf_13 : decode cX7_pricesOf 13 = .ok (.lload_n 2, 1) := by decide +kernel
theorem dX7_pricesOf_14 : decode cX7_pricesOf 14 = .ok (.aload_n 0, 1) := by decide +kernel
theorem dX7_pricesOf_15 : decode cX7_pricesOf 15 = .ok (.getfield 112, 3) := by decide +kernel
theorem dX7_pricesOf_18 : decode cX7_pricesOf 18 = .ok (.iload 4, 2) := by decide +kernel
theorem dX7_pricesOf_20 : decode cX7_pricesOf 20 = .ok (.iaload, 1) := by decide +kernel
theorem dX7_pricesOf_21 : decode cX7_pricesOf 21 = .ok (.iload_n 1, 1) := by decide +kernel
theorem dX7_pricesOf_22 : decode cX7_pricesOf 22 = .ok (.iconst 1, 1) := by decide +kernel
theorem dX7_pricesOf_23 : decode cX7_pricesOf 23 = .ok (.iadd, 1) := by decide +kernel
theorem dX7_pricesOf_24 : decode cX7_pricesOf 24 = .ok (.if_icmp .ne 22, 3) := by decide +kernel
theorem dX7_pricesOf_27 : decode cX7_pricesOf 27 = .ok (.aload_n 0, 1) := by decide +kernel
theorem dX7_pricesOf_28 : decode cX7_pricesOf 28 = .ok (.aload_n 0, 1) := by decide +kernel
theorem dX7_pricesOf_29 : decode cX7_pricesOf 29 = .ok (.getfield 20, 3) := by decide +kernel
theorem dX7_pricesOf_32 : decode cX7_pricesOf 32 = .ok (.iload 4, 2) := by decide +kernel
theorem dX7_pricesOf_34 : decode cX7_pricesOf 34 = .ok (.iaload, 1) := by decide +kernel
theorem dX7_pricesOf_35 : decode cX7_pricesOf 35 = .ok (.aload_n 0, 1) := by decide +kernel
theorem dX7_pricesOf_36 : decode cX7_pricesOf 36 = .ok (.getfield 174, 3) := by decide +kernel
theorem dX7_pricesOf_39 : decode cX7_pricesOf 39 = .ok (.invokevirtual 167, 3) := by decide +kernel
theorem dX7_pricesOf_42 : decode cX7_pricesOf 42 = .ok (.i2l, 1) := by decide +kernel
theorem dX7_pricesOf_43 : decode cX7_pricesOf 43 = .ok (.goto 4, 3) := by decide +kernel
theorem dX7_pricesOf_46 : decode cX7_pricesOf 46 = .ok (.lconst 0, 1) := by decide +kernel
theorem dX7_pricesOf_47 : decode cX7_pricesOf 47 = .ok (.ladd, 1) := by decide +kernel
theorem dX7_pricesOf_48 : decode cX7_pricesOf 48 = .ok (.lstore_n 2, 1) := by decide +kernel
theorem dX7_pricesOf_49 : decode cX7_pricesOf 49 = .ok (.iinc 4 1, 3) := by decide +kernel
theorem dX7_pricesOf_52 : decode cX7_pricesOf 52 = .ok (.goto (-47), 3) := by decide +kernel
theorem dX7_pricesOf_55 : decode cX7_pricesOf 55 = .ok (.lload_n 2, 1) := by decide +kernel
theorem dX7_pricesOf_56 : decode cX7_pricesOf 56 = .ok (.lreturn, 1) := by decide +kernel
theorem dX7_isCase_0 : decode cX7_isCase 0 = .ok (.iload_n 1, 1) := by decide +kernel
theorem dX7_isCase_1 : decode cX7_isCase 1 = .ok (.i2l, 1) := by decide +kernel
theorem dX7_isCase_2 : decode cX7_isCase 2 = .ok (.lconst 0, 1) := by decide +kernel
theorem dX7_isCase_3 : decode cX7_isCase 3 = .ok (.aload_n 0, 1) := by decide +kernel
theorem dX7_isCase_4 : decode cX7_isCase 4 = .ok (.getfield 197, 3) := by decide +kernel
theorem dX7_isCase_7 : decode cX7_isCase 7 = .ok (.iconst 1, 1) := by decide +kernel
theorem dX7_isCase_8 : decode cX7_isCase 8 = .ok (.isub, 1) := by decide +kernel
theorem dX7_isCase_9 : decode cX7_isCase 9 = .ok (.i2l, 1) := by decide +kernel
theorem dX7_isCase_10 : decode cX7_isCase 10 = .ok (.invokestatic 133, 3) := by decide +kernel
theorem dX7_isCase_13 : decode cX7_isCase 13 = .ok (.ifCond .eq 25, 3) := by decide +kernel
theorem dX7_isCase_16 : decode cX7_isCase 16 = .ok (.iload_n 2, 1) := by decide +kernel
theorem dX7_isCase_17 : decode cX7_isCase 17 = .ok (.i2l, 1) := by decide +kernel
theorem dX7_isCase_18 : decode cX7_isCase 18 = .ok (.lconst 0, 1) := by decide +kernel
theorem dX7_isCase_19 : decode cX7_isCase 19 = .ok (.aload_n 0, 1) := by decide +kernel
theorem dX7_isCase_20 : decode cX7_isCase 20 = .ok (.getfield 63, 3) := by decide +kernel
theorem dX7_isCase_23 : decode cX7_isCase 23 = .ok (.iload_n 1, 1) := by decide +kernel
theorem dX7_isCase_24 : decode cX7_isCase 24 = .ok (.iaload, 1) := by decide +kernel
theorem dX7_isCase_25 : decode cX7_isCase 25 = .ok (.iconst 1, 1) := by decide +kernel
theorem dX7_isCase_26 : decode cX7_isCase 26 = .ok (.isub, 1) := by decide +kernel
theorem dX7_isCase_27 : decode cX7_isCase 27 = .ok (.i2l, 1) := by decide +kernel
theorem dX7_isCase_28 : decode cX7_isCase 28 = .ok (.invokestatic 133, 3) := by decide +kernel
theorem dX7_isCase_31 : decode cX7_isCase 31 = .ok (.ifCond .eq 7, 3) := by decide +kernel
theorem dX7_isCase_34 : decode cX7_isCase 34 = .ok (.iconst 1, 1) := by decide +kernel
theorem dX7_isCase_35 : decode cX7_isCase 35 = .ok (.goto 4, 3) := by decide +kernel
theorem dX7_isCase_38 : decode cX7_isCase 38 = .ok (.iconst 0, 1) := by decide +kernel
theorem dX7_isCase_39 : decode cX7_isCase 39 = .ok (.ireturn, 1) := by decide +kernel
theorem dX7_line_0 : decode cX7_line 0 = .ok (.aload_n 0, 1) := by decide +kernel
theorem dX7_line_1 : decode cX7_line 1 = .ok (.iload_n 1, 1) := by decide +kernel
theorem dX7_line_2 : decode cX7_line 2 = .ok (.iload_n 2, 1) := by decide +kernel
theorem dX7_line_3 : decode cX7_line 3 = .ok (.invokevirtual 143, 3) := by decide +kernel
theorem dX7_line_6 : decode cX7_line 6 = .ok (.ifCond .ne 6, 3) := by decide +kernel
theorem dX7_line_9 : decode cX7_line 9 = .ok (.bipush (-101), 2) := by decide +kernel
theorem dX7_line_11 : decode cX7_line 11 = .ok (.ireturn, 1) := by decide +kernel
theorem dX7_line_12 : decode cX7_line 12 = .ok (.bipush 16, 2) := by decide +kernel
theorem dX7_line_14 : decode cX7_line 14 = .ok (.iload_n 2, 1) := by decide +kernel
theorem dX7_line_15 : decode cX7_line 15 = .ok (.imul, 1) := by decide +kernel
theorem dX7_line_16 : decode cX7_line 16 = .ok (.iload_n 1, 1) := by decide +kernel
theorem dX7_line_17 : decode cX7_line 17 = .ok (.iadd, 1) := by decide +kernel
theorem dX7_line_18 : decode cX7_line 18 = .ok (.istore 4, 2) := by decide +kernel
theorem dX7_line_20 : decode cX7_line 20 = .ok (.aload_n 0, 1) := by decide +kernel
theorem dX7_line_21 : decode cX7_line 21 = .ok (.getfield 200, 3) := by decide +kernel
theorem dX7_line_24 : decode cX7_line 24 = .ok (.ifCond .ne 13, 3) := by decide +kernel
theorem dX7_line_27 : decode cX7_line 27 = .ok (.aload_n 0, 1) := by decide +kernel
theorem dX7_line_28 : decode cX7_line 28 = .ok (.getfield 30, 3) := by decide +kernel
theorem dX7_line_31 : decode cX7_line 31 = .ok (.iload 4, 2) := by decide +kernel
theorem dX7_line_33 : decode cX7_line 33 = .ok (.iaload, 1) := by decide +kernel
theorem dX7_line_34 : decode cX7_line 34 = .ok (.ifCond .le 6, 3) := by decide +kernel
theorem dX7_line_37 : decode cX7_line 37 = .ok (.bipush (-103), 2) := by decide +kernel
theorem dX7_line_39 : decode cX7_line 39 = .ok (.ireturn, 1) := by decide +kernel
theorem dX7_line_40 : decode cX7_line 40 = .ok (.aload_n 0, 1) := by decide +kernel
theorem dX7_line_41 : decode cX7_line 41 = .ok (.getfield 27, 3) := by decide +kernel
theorem dX7_line_44 : decode cX7_line 44 = .ok (.iload 4, 2) := by decide +kernel
theorem dX7_line_46 : decode cX7_line 46 = .ok (.baload, 1) := by decide +kernel
theorem dX7_line_47 : decode cX7_line 47 = .ok (.ifCond .eq 7, 3) := by decide +kernel
theorem dX7_line_50 : decode cX7_line 50 = .ok (.iconst 1, 1) := by decide +kernel
theorem dX7_line_51 : decode cX7_line 51 = .ok (.goto 4, 3) := by decide +kernel
theorem dX7_line_54 : decode cX7_line 54 = .ok (.iconst 0, 1) := by decide +kernel
theorem dX7_line_55 : decode cX7_line 55 = .ok (.istore 5, 2) := by decide +kernel
theorem dX7_line_57 : decode cX7_line 57 = .ok (.aload_n 0, 1) := by decide +kernel
theorem dX7_line_58 : decode cX7_line 58 = .ok (.getfield 27, 3) := by decide +kernel
theorem dX7_line_61 : decode cX7_line 61 = .ok (.iload 4, 2) := by decide +kernel
theorem dX7_line_63 : decode cX7_line 63 = .ok (.iload_n 3, 1) := by decide +kernel
theorem dX7_line_64 : decode cX7_line 64 = .ok (.bastore, 1) := by decide +kernel
theorem dX7_line_65 : decode cX7_line 65 = .ok (.iload 5, 2) := by decide +kernel
theorem dX7_line_67 : decode cX7_line 67 = .ok (.ireturn, 1) := by decide +kernel
theorem dX7_wanted_0 : decode cX7_wanted 0 = .ok (.iconst 0, 1) := by decide +kernel
theorem dX7_wanted_1 : decode cX7_wanted 1 = .ok (.istore_n 2, 1) := by decide +kernel
theorem dX7_wanted_2 : decode cX7_wanted 2 = .ok (.iconst 0, 1) := by decide +kernel
theorem dX7_wanted_3 : decode cX7_wanted 3 = .ok (.istore_n 3, 1) := by decide +kernel
theorem dX7_wanted_4 : decode cX7_wanted 4 = .ok (.iload_n 3, 1) := by decide +kernel
theorem dX7_wanted_5 : decode cX7_wanted 5 = .ok (.sipush 256, 3) := by decide +kernel
theorem dX7_wanted_8 : decode cX7_wanted 8 = .ok (.if_icmp .ge 35, 3) := by decide +kernel
theorem dX7_wanted_11 : decode cX7_wanted 11 = .ok (.iload_n 2, 1) := by decide +kernel
theorem dX7_wanted_12 : decode cX7_wanted 12 = .ok (.aload_n 0, 1) := by decide +kernel
theorem dX7_wanted_13 : decode cX7_wanted 13 = .ok (.getfield 27, 3) := by decide +kernel
theorem dX7_wanted_16 : decode cX7_wanted 16 = .ok (.iload_n 3, 1) := by decide +kernel
theorem dX7_wanted_17 : decode cX7_wanted 17 = .ok (.baload, 1) := by decide +kernel
theorem dX7_wanted_18 : decode cX7_wanted 18 = .ok (.ifCond .eq 16, 3) := by decide +kernel
theorem dX7_wanted_21 : decode cX7_wanted 21 = .ok (.aload_n 0, 1) := by decide +kernel
theorem dX7_wanted_22 : decode cX7_wanted 22 = .ok (.iload_n 3, 1) := by decide +kernel
theorem dX7_wanted_23 : decode cX7_wanted 23 = .ok (.iload_n 1, 1) := by decide +kernel
theorem dX7_wanted_24 : decode cX7_wanted 24 = .ok (.invokevirtual 190, 3) := by decide +kernel
theorem dX7_wanted_27 : decode cX7_wanted 27 = .ok (.ifCond .eq 7, 3) := by decide +kernel
theorem dX7_wanted_30 : decode cX7_wanted 30 = .ok (.iconst 1, 1) := by decide +kernel
theorem dX7_wanted_31 : decode cX7_wanted 31 = .ok (.goto 4, 3) := by decide +kernel
theorem dX7_wanted_34 : decode cX7_wanted 34 = .ok (.iconst 0, 1) := by decide +kernel
theorem dX7_wanted_35 : decode cX7_wanted 35 = .ok (.iadd, 1) := by decide +kernel
theorem dX7_wanted_36 : decode cX7_wanted 36 = .ok (.istore_n 2, 1) := by decide +kernel
theorem dX7_wanted_37 : decode cX7_wanted 37 = .ok (.iinc 3 1, 3) := by decide +kernel
theorem dX7_wanted_40 : decode cX7_wanted 40 = .ok (.goto (-36), 3) := by decide +kernel
theorem dX7_wanted_43 : decode cX7_wanted 43 = .ok (.iload_n 2, 1) := by decide +kernel
theorem dX7_wanted_44 : decode cX7_wanted 44 = .ok (.ireturn, 1) := by decide +kernel
theorem dX7_make_0 : decode cX7_make 0 = .ok (.aload_n 0, 1) := by decide +kernel
theorem dX7_make_1 : decode cX7_make 1 = .ok (.getfield 200, 3) := by decide +kernel
theorem dX7_make_4 : decode cX7_make 4 = .ok (.ifCond .eq 6, 3) := by decide +kernel
theorem dX7_make_7 : decode cX7_make 7 = .ok (.bipush (-103), 2) := by decide +kernel
theorem dX7_make_9 : decode cX7_make 9 = .ok (.ireturn, 1) := by decide +kernel
theorem dX7_make_10 : decode cX7_make 10 = .ok (.iconst 0, 1) := by decide +kernel
theorem dX7_make_11 : decode cX7_make 11 = .ok (.istore_n 1, 1) := by decide +kernel
theorem dX7_make_12 : decode cX7_make 12 = .ok (.iconst 0, 1) := by decide +kernel
theorem dX7_make_13 : decode cX7_make 13 = .ok (.istore_n 2, 1) := by decide +kernel
theorem dX7_make_14 : decode cX7_make 14 = .ok (.iload_n 2, 1) := by decide +kernel
theorem dX7_make_15 : decode cX7_make 15 = .ok (.aload_n 0, 1) := by decide +kernel
theorem dX7_make_16 : decode cX7_make 16 = .ok (.getfield 130, 3) := by decide +kernel
theorem dX7_make_19 : decode cX7_make 19 = .ok (.if_icmp .ge 25, 3) := by decide +kernel
theorem dX7_make_22 : decode cX7_make 22 = .ok (.iload_n 1, 1) := by decide +kernel
theorem dX7_make_23 : decode cX7_make 23 = .ok (.aload_n 0, 1) := by decide +kernel
theorem dX7_make_24 : decode cX7_make 24 = .ok (.iload_n 2, 1) := by decide +kernel
theorem dX7_make_25 : decode cX7_make 25 = .ok (.invokevirtual 203, 3) := by decide +kernel
theorem dX7_make_28 : decode cX7_make 28 = .ok (.ifCond .le 7, 3) := by decide +kernel
theorem dX7_make_31 : decode cX7_make 31 = .ok (.iconst 1, 1) := by decide +kernel
theorem dX7_make_32 : decode cX7_make 32 = .ok (.goto 4, 3) := by decide +kernel
theorem dX7_make_35 : decode cX7_make 35 = .ok (.iconst 0, 1) := by decide +kernel
theorem dX7_make_36 : decode cX7_make 36 = .ok (.iadd, 1) := by decide +kernel
theorem dX7_make_37 : decode cX7_make 37 = .ok (.istore_n 1, 1) := by decide +kernel
theorem dX7_make_38 : decode cX7_make 38 = .ok (.iinc 2 1, 3) := by decide +kernel
theorem dX7_make_41 : decode cX7_make 41 = .ok (.goto (-27), 3) := by decide +kernel
theorem dX7_make_44 : decode cX7_make 44 = .ok (.iload_n 1, 1) := by decide +kernel
theorem dX7_make_45 : decode cX7_make 45 = .ok (.ifCond .ne 6, 3) := by decide +kernel
theorem dX7_make_48 : decode cX7_make 48 = .ok (.bipush (-102), 2) := by decide +kernel
theorem dX7_make_50 : decode cX7_make 50 = .ok (.ireturn, 1) := by decide +kernel
theorem dX7_make_51 : decode cX7_make 51 = .ok (.aload_n 0, 1) := by decide +kernel
theorem dX7_make_52 : decode cX7_make 52 = .ok (.getfield 197, 3) := by decide +kernel
theorem dX7_make_55 : decode cX7_make 55 = .ok (.bipush 60, 2) := by decide +kernel
theorem dX7_make_57 : decode cX7_make 57 = .ok (.if_icmp .ne 6, 3) := by decide +kernel
theorem dX7_make_60 : decode cX7_make 60 = .ok (.bipush (-104), 2) := by decide +kernel
theorem dX7_make_62 : decode cX7_make 62 = .ok (.ireturn, 1) := by decide +kernel
theorem dX7_make_63 : decode cX7_make 63 = .ok (.aload_n 0, 1) := by decide +kernel
theorem dX7_make_64 : decode cX7_make 64 = .ok (.getfield 197, 3) := by decide +kernel
theorem dX7_make_67 : decode cX7_make 67 = .ok (.istore_n 2, 1) := by decide +kernel
theorem dX7_make_68 : decode cX7_make 68 = .ok (.aload_n 0, 1) := by decide +kernel
theorem dX7_make_69 : decode cX7_make 69 = .ok (.getfield 63, 3) := by decide +kernel
theorem dX7_make_72 : decode cX7_make 72 = .ok (.iload_n 2, 1) := by decide +kernel
theorem dX7_make_73 : decode cX7_make 73 = .ok (.iconst 0, 1) := by decide +kernel
theorem dX7_make_74 : decode cX7_make 74 = .ok (.iastore, 1) := by decide +kernel
theorem dX7_make_75 : decode cX7_make 75 = .ok (.aload_n 0, 1) := by decide +kernel
theorem dX7_make_76 : decode cX7_make 76 = .ok (.getfield 57, 3) := by decide +kernel
theorem dX7_make_79 : decode cX7_make 79 = .ok (.iload_n 2, 1) := by decide +kernel
theorem dX7_make_80 : decode cX7_make 80 = .ok (.aload_n 0, 1) := by decide +kernel
theorem dX7_make_81 : decode cX7_make 81 = .ok (.getfield 174, 3) := by decide +kernel
theorem dX7_make_84 : decode cX7_make 84 = .ok (.iastore, 1) := by decide +kernel
theorem dX7_make_85 : decode cX7_make 85 = .ok (.aload_n 0, 1) := by decide +kernel
theorem dX7_make_86 : decode cX7_make 86 = .ok (.getfield 60, 3) := by decide +kernel
theorem dX7_make_89 : decode cX7_make 89 = .ok (.iload_n 2, 1) := by decide +kernel
theorem dX7_make_90 : decode cX7_make 90 = .ok (.aload_n 0, 1) := by decide +kernel
theorem dX7_make_91 : decode cX7_make 91 = .ok (.getfield 54, 3) := by decide +kernel
theorem dX7_make_94 : decode cX7_make 94 = .ok (.iconst 4, 1) := by decide +kernel
theorem dX7_make_95 : decode cX7_make 95 = .ok (.iaload, 1) := by decide +kernel
theorem dX7_make_96 : decode cX7_make 96 = .ok (.iastore, 1) := by decide +kernel
theorem dX7_make_97 : decode cX7_make 97 = .ok (.aload_n 0, 1) := by decide +kernel
theorem dX7_make_98 : decode cX7_make 98 = .ok (.getfield 66, 3) := by decide +kernel
theorem dX7_make_101 : decode cX7_make 101 = .ok (.iload_n 2, 1) := by decide +kernel
theorem dX7_make_102 : decode cX7_make 102 = .ok (.iconst 0, 1) := by decide +kernel
theorem dX7_make_103 : decode cX7_make 103 = .ok (.bastore, 1) := by decide +kernel
theorem dX7_make_104 : decode cX7_make 104 = .ok (.iconst 0, 1) := by decide +kernel
theorem dX7_make_105 : decode cX7_make 105 = .ok (.istore_n 3, 1) := by decide +kernel
theorem dX7_make_106 : decode cX7_make 106 = .ok (.iload_n 3, 1) := by decide +kernel
theorem dX7_make_107 : decode cX7_make 107 = .ok (.aload_n 0, 1) := by decide +kernel
theorem dX7_make_108 : decode cX7_make 108 = .ok (.getfield 130, 3) := by decide +kernel
theorem dX7_make_111 : decode cX7_make 111 = .ok (.if_icmp .ge 160, 3) := by decide +kernel
theorem dX7_make_114 : decode cX7_make 114 = .ok (.aload_n 0, 1) := by decide +kernel
theorem dX7_make_115 : decode cX7_make 115 = .ok (.iload_n 3, 1) := by decide +kernel
theorem dX7_make_116 : decode cX7_make 116 = .ok (.invokevirtual 203, 3) := by decide +kernel
theorem dX7_make_119 : decode cX7_make 119 = .ok (.ifCond .le 146, 3) := by decide +kernel
theorem dX7_make_122 : decode cX7_make 122 = .ok (.bipush 12, 2) := by decide +kernel
theorem dX7_make_124 : decode cX7_make 124 = .ok (.iload_n 2, 1) := by decide +kernel
theorem dX7_make_125 : decode cX7_make 125 = .ok (.imul, 1) := by decide +kernel
theorem dX7_make_126 : decode cX7_make 126 = .ok (.aload_n 0, 1) := by decide +kernel
theorem dX7_make_127 : decode cX7_make 127 = .ok (.getfield 63, 3) := by decide +kernel
theorem dX7_make_130 : decode cX7_make 130 = .ok (.iload_n 2, 1) := by decide +kernel
theorem dX7_make_131 : decode cX7_make 131 = .ok (.iaload, 1) := by decide +kernel
theorem dX7_make_132 : decode cX7_make 132 = .ok (.iadd, 1) := by decide +kernel
theorem dX7_make_133 : decode cX7_make 133 = .ok (.istore 4, 2) := by decide +kernel
theorem dX7_make_135 : decode cX7_make 135 = .ok (.aload_n 0, 1) := by decide +kernel
theorem dX7_make_136 : decode cX7_make 136 = .ok (.getfield 69, 3) := by decide +kernel
theorem dX7_make_139 : decode cX7_make 139 = .ok (.iload 4, 2) := by decide +kernel
theorem dX7_make_141 : decode cX7_make 141 = .ok (.iload_n 3, 1) := by decide +kernel
theorem dX7_make_142 : decode cX7_make 142 = .ok (.iastore, 1) := by decide +kernel
theorem dX7_make_143 : decode cX7_make 143 = .ok (.aload_n 0, 1) := by decide +kernel
theorem dX7_make_144 : decode cX7_make 144 = .ok (.getfield 72, 3) := by decide +kernel
theorem dX7_make_147 : decode cX7_make 147 = .ok (.iload 4, 2) := by decide +kernel
theorem dX7_make_149 : decode cX7_make 149 = .ok (.iconst 0, 1) := by decide +kernel
theorem dX7_make_150 : decode cX7_make 150 = .ok (.iastore, 1) := by decide +kernel
theorem dX7_make_151 : decode cX7_make 151 = .ok (.aload_n 0, 1) := by decide +kernel
theorem dX7_make_152 : decode cX7_make 152 = .ok (.getfield 75, 3) := by decide +kernel
theorem dX7_make_155 : decode cX7_make 155 = .ok (.iload 4, 2) := by decide +kernel
theorem dX7_make_157 : decode cX7_make 157 = .ok (.aload_n 0, 1) := by decide +kernel
theorem dX7_make_158 : decode cX7_make 158 = .ok (.iload_n 3, 1) := by decide +kernel
theorem dX7_make_159 : decode cX7_make 159 = .ok (.invokevirtual 203, 3) := by decide +kernel
theorem dX7_make_162 : decode cX7_make 162 = .ok (.iastore, 1) := by decide +kernel
theorem dX7_make_163 : decode cX7_make 163 = .ok (.aload_n 0, 1) := by decide +kernel
theorem dX7_make_164 : decode cX7_make 164 = .ok (.getfield 78, 3) := by decide +kernel
theorem dX7_make_167 : decode cX7_make 167 = .ok (.iload 4, 2) := by decide +kernel
theorem dX7_make_169 : decode cX7_make 169 = .ok (.iconst 0, 1) := by decide +kernel
theorem dX7_make_170 : decode cX7_make 170 = .ok (.iastore, 1) := by decide +kernel
theorem dX7_make_171 : decode cX7_make 171 = .ok (.aload_n 0, 1) := by decide +kernel
theorem dX7_make_172 : decode cX7_make 172 = .ok (.getfield 84, 3) := by decide +kernel
theorem dX7_make_175 : decode cX7_make 175 = .ok (.iload 4, 2) := by decide +kernel
theorem dX7_make_177 : decode cX7_make 177 = .ok (.lconst 0, 1) := by decide +kernel
theorem dX7_make_178 : decode cX7_make 178 = .ok (.lastore, 1) := by decide +kernel
theorem dX7_make_179 : decode cX7_make 179 = .ok (.aload_n 0, 1) := by decide +kernel
theorem dX7_make_180 : decode cX7_make 180 = .ok (.getfield 88, 3) := by decide +kernel
theorem dX7_make_183 : decode cX7_make 183 = .ok (.iload 4, 2) := by decide +kernel
theorem dX7_make_185 : decode cX7_make 185 = .ok (.lconst 0, 1) := by decide +kernel
theorem dX7_make_186 : decode cX7_make 186 = .ok (.lastore, 1) := by decide +kernel
theorem dX7_make_187 : decode cX7_make 187 = .ok (.aload_n 0, 1) := by decide +kernel
theorem dX7_make_188 : decode cX7_make 188 = .ok (.getfield 91, 3) := by decide +kernel
theorem dX7_make_191 : decode cX7_make 191 = .ok (.iload 4, 2) := by decide +kernel
theorem dX7_make_193 : decode cX7_make 193 = .ok (.lconst 0, 1) := by decide +kernel
theorem dX7_make_194 : decode cX7_make 194 = .ok (.lastore, 1) := by decide +kernel
theorem dX7_make_195 : decode cX7_make 195 = .ok (.aload_n 0, 1) := by decide +kernel
theorem dX7_make_196 : decode cX7_make 196 = .ok (.getfield 94, 3) := by decide +kernel
theorem dX7_make_199 : decode cX7_make 199 = .ok (.iload 4, 2) := by decide +kernel
theorem dX7_make_201 : decode cX7_make 201 = .ok (.lconst 0, 1) := by decide +kernel
theorem dX7_make_202 : decode cX7_make 202 = .ok (.lastore, 1) := by decide +kernel
theorem dX7_make_203 : decode cX7_make 203 = .ok (.aload_n 0, 1) := by decide +kernel
theorem dX7_make_204 : decode cX7_make 204 = .ok (.getfield 97, 3) := by decide +kernel
theorem dX7_make_207 : decode cX7_make 207 = .ok (.iload 4, 2) := by decide +kernel
theorem dX7_make_209 : decode cX7_make 209 = .ok (.lconst 0, 1) := by decide +kernel
theorem dX7_make_210 : decode cX7_make 210 = .ok (.lastore, 1) := by decide +kernel
theorem dX7_make_211 : decode cX7_make 211 = .ok (.aload_n 0, 1) := by decide +kernel
theorem dX7_make_212 : decode cX7_make 212 = .ok (.getfield 100, 3) := by decide +kernel
theorem dX7_make_215 : decode cX7_make 215 = .ok (.iload 4, 2) := by decide +kernel
theorem dX7_make_217 : decode cX7_make 217 = .ok (.lconst 0, 1) := by decide +kernel
theorem dX7_make_218 : decode cX7_make 218 = .ok (.lastore, 1) := by decide +kernel
theorem dX7_make_219 : decode cX7_make 219 = .ok (.aload_n 0, 1) := by decide +kernel
theorem dX7_make_220 : decode cX7_make 220 = .ok (.getfield 103, 3) := by decide +kernel
theorem dX7_make_223 : decode cX7_make 223 = .ok (.iload 4, 2) := by decide +kernel
theorem dX7_make_225 : decode cX7_make 225 = .ok (.lconst 0, 1) := by decide +kernel
theorem dX7_make_226 : decode cX7_make 226 = .ok (.lastore, 1) := by decide +kernel
theorem dX7_make_227 : decode cX7_make 227 = .ok (.iconst 0, 1) := by decide +kernel
theorem dX7_make_228 : decode cX7_make 228 = .ok (.istore 5, 2) := by decide +kernel
theorem dX7_make_230 : decode cX7_make 230 = .ok (.iload 5, 2) := by decide +kernel
theorem dX7_make_232 : decode cX7_make 232 = .ok (.iconst 4, 1) := by decide +kernel
theorem dX7_make_233 : decode cX7_make 233 = .ok (.if_icmp .ge 22, 3) := by decide +kernel
theorem dX7_make_236 : decode cX7_make 236 = .ok (.aload_n 0, 1) := by decide +kernel
theorem dX7_make_237 : decode cX7_make 237 = .ok (.getfield 109, 3) := by decide +kernel
theorem dX7_make_240 : decode cX7_make 240 = .ok (.iconst 4, 1) := by decide +kernel
theorem dX7_make_241 : decode cX7_make 241 = .ok (.iload 4, 2) := by decide +kernel
theorem dX7_make_243 : decode cX7_make 243 = .ok (.imul, 1) := by decide +kernel
theorem dX7_make_244 : decode cX7_make 244 = .ok (.iload 5, 2) := by decide +kernel
theorem dX7_make_246 : decode cX7_make 246 = .ok (.iadd, 1) := by decide +kernel
theorem dX7_make_247 : decode cX7_make 247 = .ok (.lconst 0, 1) := by decide +kernel
theorem dX7_make_248 : decode cX7_make 248 = .ok (.lastore, 1) := by decide +kernel
theorem dX7_make_249 : decode cX7_make 249 = .ok (.iinc 5 1, 3) := by decide +kernel
theorem dX7_make_252 : decode cX7_make 252 = .ok (.goto (-22), 3) := by decide +kernel
theorem dX7_make_255 : decode cX7_make 255 = .ok (.aload_n 0, 1) := by decide +kernel
theorem dX7_make_256 : decode cX7_make 256 = .ok (.getfield 63, 3) := by decide +kernel
theorem dX7_make_259 : decode cX7_make 259 = .ok (.iload_n 2, 1) := by decide +kernel
theorem dX7_make_260 : decode cX7_make 260 = .ok (.dup2, 1) := by decide +kernel
theorem dX7_make_261 : decode cX7_make 261 = .ok (.iaload, 1) := by decide +kernel
theorem dX7_make_262 : decode cX7_make 262 = .ok (.iconst 1, 1) := by decide +kernel
theorem dX7_make_263 : decode cX7_make 263 = .ok (.iadd, 1) := by decide +kernel
theorem dX7_make_264 : decode cX7_make 264 = .ok (.iastore, 1) := by decide +kernel
theorem dX7_make_265 : decode cX7_make 265 = .ok (.iinc 3 1, 3) := by decide +kernel
theorem dX7_make_268 : decode cX7_make 268 = .ok (.goto (-162), 3) := by decide +kernel
theorem dX7_make_271 : decode cX7_make 271 = .ok (.aload_n 0, 1) := by decide +kernel
theorem dX7_make_272 : decode cX7_make 272 = .ok (.dup, 1) := by decide +kernel
theorem dX7_make_273 : decode cX7_make 273 = .ok (.getfield 197, 3) := by decide +kernel
theorem dX7_make_276 : decode cX7_make 276 = .ok (.iconst 1, 1) := by decide +kernel
theorem dX7_make_277 : decode cX7_make 277 = .ok (.iadd, 1) := by decide +kernel
theorem dX7_make_278 : decode cX7_make 278 = .ok (.putfield 197, 3) := by decide +kernel
theorem dX7_make_281 : decode cX7_make 281 = .ok (.aload_n 0, 1) := by decide +kernel
theorem dX7_make_282 : decode cX7_make 282 = .ok (.iconst 1, 1) := by decide +kernel
theorem dX7_make_283 : decode cX7_make 283 = .ok (.putfield 200, 3) := by decide +kernel
theorem dX7_make_286 : decode cX7_make 286 = .ok (.aload_n 0, 1) := by decide +kernel
theorem dX7_make_287 : decode cX7_make 287 = .ok (.iconst 1, 1) := by decide +kernel
theorem dX7_make_288 : decode cX7_make 288 = .ok (.putfield 139, 3) := by decide +kernel
theorem dX7_make_291 : decode cX7_make 291 = .ok (.iload_n 1, 1) := by decide +kernel
theorem dX7_make_292 : decode cX7_make 292 = .ok (.ireturn, 1) := by decide +kernel
theorem dX7_object_0 : decode cX7_object 0 = .ok (.aload_n 0, 1) := by decide +kernel
theorem dX7_object_1 : decode cX7_object 1 = .ok (.getfield 200, 3) := by decide +kernel
theorem dX7_object_4 : decode cX7_object 4 = .ok (.ifCond .ne 6, 3) := by decide +kernel
theorem dX7_object_7 : decode cX7_object 7 = .ok (.bipush (-103), 2) := by decide +kernel
theorem dX7_object_9 : decode cX7_object 9 = .ok (.ireturn, 1) := by decide +kernel
theorem dX7_object_10 : decode cX7_object 10 = .ok (.aload_n 0, 1) := by decide +kernel
theorem dX7_object_11 : decode cX7_object 11 = .ok (.getfield 197, 3) := by decide +kernel
theorem dX7_object_14 : decode cX7_object 14 = .ok (.iconst 1, 1) := by decide +kernel
theorem dX7_object_15 : decode cX7_object 15 = .ok (.isub, 1) := by decide +kernel
theorem dX7_object_16 : decode cX7_object 16 = .ok (.istore_n 2, 1) := by decide +kernel
theorem dX7_object_17 : decode cX7_object 17 = .ok (.iload_n 1, 1) := by decide +kernel
theorem dX7_object_18 : decode cX7_object 18 = .ok (.i2l, 1) := by decide +kernel
theorem dX7_object_19 : decode cX7_object 19 = .ok (.lconst 0, 1) := by decide +kernel
theorem dX7_object_20 : decode cX7_object 20 = .ok (.aload_n 0, 1) := by decide +kernel
theorem dX7_object_21 : decode cX7_object 21 = .ok (.getfield 63, 3) := by decide +kernel
theorem dX7_object_24 : decode cX7_object 24 = .ok (.iload_n 2, 1) := by decide +kernel
theorem dX7_object_25 : decode cX7_object 25 = .ok (.iaload, 1) := by decide +kernel
theorem dX7_object_26 : decode cX7_object 26 = .ok (.iconst 1, 1) := by decide +kernel
theorem dX7_object_27 : decode cX7_object 27 = .ok (.isub, 1) := by decide +kernel
theorem dX7_object_28 : decode cX7_object 28 = .ok (.i2l, 1) := by decide +kernel
theorem dX7_object_29 : decode cX7_object 29 = .ok (.invokestatic 133, 3) := by decide +kernel
theorem dX7_object_32 : decode cX7_object 32 = .ok (.ifCond .ne 6, 3) := by decide +kernel
theorem dX7_object_35 : decode cX7_object 35 = .ok (.bipush (-101), 2) := by decide +kernel
theorem dX7_object_37 : decode cX7_object 37 = .ok (.ireturn, 1) := by decide +kernel
theorem dX7_object_38 : decode cX7_object 38 = .ok (.aload_n 0, 1) := by decide +kernel
theorem dX7_object_39 : decode cX7_object 39 = .ok (.getfield 72, 3) := by decide +kernel
theorem dX7_object_42 : decode cX7_object 42 = .ok (.bipush 12, 2) := by decide +kernel
theorem dX7_object_44 : decode cX7_object 44 = .ok (.iload_n 2, 1) := by decide +kernel
theorem dX7_object_45 : decode cX7_object 45 = .ok (.imul, 1) := by decide +kernel
theorem dX7_object_46 : decode cX7_object 46 = .ok (.iload_n 1, 1) := by decide +kernel
theorem dX7_object_47 : decode cX7_object 47 = .ok (.iadd, 1) := by decide +kernel
theorem dX7_object_48 : decode cX7_object 48 = .ok (.iaload, 1) := by decide +kernel
theorem dX7_object_49 : decode cX7_object 49 = .ok (.ifCond .ne 23, 3) := by decide +kernel
theorem dX7_object_52 : decode cX7_object 52 = .ok (.aload_n 0, 1) := by decide +kernel
theorem dX7_object_53 : decode cX7_object 53 = .ok (.getfield 174, 3) := by decide +kernel
theorem dX7_object_56 : decode cX7_object 56 = .ok (.aload_n 0, 1) := by decide +kernel
theorem dX7_object_57 : decode cX7_object 57 = .ok (.getfield 57, 3) := by decide +kernel
theorem dX7_object_60 : decode cX7_object 60 = .ok (.iload_n 2, 1) := by decide +kernel
theorem dX7_object_61 : decode cX7_object 61 = .ok (.iaload, 1) := by decide +kernel
theorem dX7_object_62 : decode cX7_object 62 = .ok (.aload_n 0, 1) := by decide +kernel
theorem dX7_object_63 : decode cX7_object 63 = .ok (.getfield 60, 3) := by decide +kernel
theorem dX7_object_66 : decode cX7_object 66 = .ok (.iload_n 2, 1) := by decide +kernel
theorem dX7_object_67 : decode cX7_object 67 = .ok (.iaload, 1) := by decide +kernel
theorem dX7_object_68 : decode cX7_object 68 = .ok (.iadd, 1) := by decide +kernel
theorem dX7_object_69 : decode cX7_object 69 = .ok (.if_icmp .le 6, 3) := by decide +kernel
theorem dX7_object_72 : decode cX7_object 72 = .ok (.bipush (-103), 2) := by decide +kernel
theorem dX7_object_74 : decode cX7_object 74 = .ok (.ireturn, 1) := by decide +kernel
theorem dX7_object_75 : decode cX7_object 75 = .ok (.aload_n 0, 1) := by decide +kernel
theorem dX7_object_76 : decode cX7_object 76 = .ok (.getfield 72, 3) := by decide +kernel
theorem dX7_object_79 : decode cX7_object 79 = .ok (.bipush 12, 2) := by decide +kernel
theorem dX7_object_81 : decode cX7_object 81 = .ok (.iload_n 2, 1) := by decide +kernel
theorem dX7_object_82 : decode cX7_object 82 = .ok (.imul, 1) := by decide +kernel
theorem dX7_object_83 : decode cX7_object 83 = .ok (.iload_n 1, 1) := by decide +kernel
theorem dX7_object_84 : decode cX7_object 84 = .ok (.iadd, 1) := by decide +kernel
theorem dX7_object_85 : decode cX7_object 85 = .ok (.iconst 1, 1) := by decide +kernel
theorem dX7_object_86 : decode cX7_object 86 = .ok (.iastore, 1) := by decide +kernel
theorem dX7_object_87 : decode cX7_object 87 = .ok (.iconst 1, 1) := by decide +kernel
theorem dX7_object_88 : decode cX7_object 88 = .ok (.ireturn, 1) := by decide +kernel
theorem dX7_close_0 : decode cX7_close 0 = .ok (.aload_n 0, 1) := by decide +kernel
theorem dX7_close_1 : decode cX7_close 1 = .ok (.getfield 197, 3) := by decide +kernel
theorem dX7_close_4 : decode cX7_close 4 = .ok (.iconst 1, 1) := by decide +kernel
theorem dX7_close_5 : decode cX7_close 5 = .ok (.isub, 1) := by decide +kernel
theorem dX7_close_6 : decode cX7_close 6 = .ok (.istore_n 1, 1) := by decide +kernel
theorem dX7_close_7 : decode cX7_close 7 = .ok (.iconst 1, 1) := by decide +kernel
theorem dX7_close_8 : decode cX7_close 8 = .ok (.istore_n 2, 1) := by decide +kernel
theorem dX7_close_9 : decode cX7_close 9 = .ok (.iconst 0, 1) := by decide +kernel
theorem dX7_close_10 : decode cX7_close 10 = .ok (.istore_n 3, 1) := by decide +kernel
theorem dX7_close_11 : decode cX7_close 11 = .ok (.iload_n 3, 1) := by decide +kernel
theorem dX7_close_12 : decode cX7_close 12 = .ok (.aload_n 0, 1) := by decide +kernel
theorem dX7_close_13 : decode cX7_close 13 = .ok (.getfield 63, 3) := by decide +kernel
theorem dX7_close_16 : decode cX7_close 16 = .ok (.iload_n 1, 1) := by decide +kernel
theorem dX7_close_17 : decode cX7_close 17 = .ok (.iaload, 1) := by decide +kernel
theorem dX7_close_18 : decode cX7_close 18 = .ok (.if_icmp .ge 44, 3) := by decide +kernel
theorem dX7_close_21 : decode cX7_close 21 = .ok (.aload_n 0, 1) := by decide +kernel
theorem dX7_close_22 : decode cX7_close 22 = .ok (.getfield 72, 3) := by decide +kernel
theorem dX7_close_25 : decode cX7_close 25 = .ok (.bipush 12, 2) := by decide +kernel
theorem dX7_close_27 : decode cX7_close 27 = .ok (.iload_n 1, 1) := by decide +kernel
theorem dX7_close_28 : decode cX7_close 28 = .ok (.imul, 1) := by decide +kernel
theorem dX7_close_29 : decode cX7_close 29 = .ok (.iload_n 3, 1) := by decide +kernel
theorem dX7_close_30 : decode cX7_close 30 = .ok (.iadd, 1) := by decide +kernel
theorem dX7_close_31 : decode cX7_close 31 = .ok (.iaload, 1) := by decide +kernel
theorem dX7_close_32 : decode cX7_close 32 = .ok (.istore 4, 2) := by decide +kernel
theorem dX7_close_34 : decode cX7_close 34 = .ok (.iload_n 2, 1) := by decide +kernel
theorem dX7_close_35 : decode cX7_close 35 = .ok (.ifCond .eq 19, 3) := by decide +kernel
theorem dX7_close_38 : decode cX7_close 38 = .ok (.iload 4, 2) := by decide +kernel
theorem dX7_close_40 : decode cX7_close 40 = .ok (.iconst 3, 1) := by decide +kernel
theorem dX7_close_41 : decode cX7_close 41 = .ok (.if_icmp .eq 9, 3) := by decide +kernel
theorem dX7_close_44 : decode cX7_close 44 = .ok (.iload 4, 2) := by decide +kernel
theorem dX7_close_46 : decode cX7_close 46 = .ok (.iconst 4, 1) := by decide +kernel
theorem dX7_close_47 : decode cX7_close 47 = .ok (.if_icmp .ne 7, 3) := by decide +kernel
theorem dX7_close_50 : decode cX7_close 50 = .ok (.iconst 1, 1) := by decide +kernel
theorem dX7_close_51 : decode cX7_close 51 = .ok (.goto 4, 3) := by decide +kernel
theorem dX7_close_54 : decode cX7_close 54 = .ok (.iconst 0, 1) := by decide +kernel
theorem dX7_close_55 : decode cX7_close 55 = .ok (.istore_n 2, 1) := by decide +kernel
theorem dX7_close_56 : decode cX7_close 56 = .ok (.iinc 3 1, 3) := by decide +kernel
theorem dX7_close_59 : decode cX7_close 59 = .ok (.goto (-48), 3) := by decide +kernel
theorem dX7_close_62 : decode cX7_close 62 = .ok (.iload_n 2, 1) := by decide +kernel
theorem dX7_close_63 : decode cX7_close 63 = .ok (.ifCond .eq 30, 3) := by decide +kernel
theorem dX7_close_66 : decode cX7_close 66 = .ok (.aload_n 0, 1) := by decide +kernel
theorem dX7_close_67 : decode cX7_close 67 = .ok (.iconst 0, 1) := by decide +kernel
theorem dX7_close_68 : decode cX7_close 68 = .ok (.putfield 200, 3) := by decide +kernel
theorem dX7_close_71 : decode cX7_close 71 = .ok (.iconst 0, 1) := by decide +kernel
theorem dX7_close_72 : decode cX7_close 72 = .ok (.istore_n 3, 1) := by decide +kernel
theorem dX7_close_73 : decode cX7_close 73 = .ok (.iload_n 3, 1) := by decide +kernel
theorem dX7_close_74 : decode cX7_close 74 = .ok (.sipush 256, 3) := by decide +kernel
theorem dX7_close_77 : decode cX7_close 77 = .ok (.if_icmp .ge 16, 3) := by decide +kernel
theorem dX7_close_80 : decode cX7_close 80 = .ok (.aload_n 0, 1) := by decide +kernel
theorem dX7_close_81 : decode cX7_close 81 = .ok (.getfield 27, 3) := by decide +kernel
theorem dX7_close_84 : decode cX7_close 84 = .ok (.iload_n 3, 1) := by decide +kernel
theorem dX7_close_85 : decode cX7_close 85 = .ok (.iconst 0, 1) := by decide +kernel
theorem dX7_close_86 : decode cX7_close 86 = .ok (.bastore, 1) := by decide +kernel
theorem dX7_close_87 : decode cX7_close 87 = .ok (.iinc 3 1, 3) := by decide +kernel
theorem dX7_close_90 : decode cX7_close 90 = .ok (.goto (-17), 3) := by decide +kernel
theorem dX7_close_93 : decode cX7_close 93 = .ok (.return_, 1) := by decide +kernel
theorem dX7_hear_0 : decode cX7_hear 0 = .ok (.aload_n 0, 1) := by decide +kernel
theorem dX7_hear_1 : decode cX7_hear 1 = .ok (.getfield 200, 3) := by decide +kernel
theorem dX7_hear_4 : decode cX7_hear 4 = .ok (.ifCond .ne 6, 3) := by decide +kernel
theorem dX7_hear_7 : decode cX7_hear 7 = .ok (.bipush (-103), 2) := by decide +kernel
theorem dX7_hear_9 : decode cX7_hear 9 = .ok (.ireturn, 1) := by decide +kernel
theorem dX7_hear_10 : decode cX7_hear 10 = .ok (.aload_n 0, 1) := by decide +kernel
theorem dX7_hear_11 : decode cX7_hear 11 = .ok (.getfield 197, 3) := by decide +kernel
theorem dX7_hear_14 : decode cX7_hear 14 = .ok (.iconst 1, 1) := by decide +kernel
theorem dX7_hear_15 : decode cX7_hear 15 = .ok (.isub, 1) := by decide +kernel
theorem dX7_hear_16 : decode cX7_hear 16 = .ok (.istore_n 3, 1) := by decide +kernel
theorem dX7_hear_17 : decode cX7_hear 17 = .ok (.iload_n 1, 1) := by decide +kernel
theorem dX7_hear_18 : decode cX7_hear 18 = .ok (.i2l, 1) := by decide +kernel
theorem dX7_hear_19 : decode cX7_hear 19 = .ok (.lconst 0, 1) := by decide +kernel
theorem dX7_hear_20 : decode cX7_hear 20 = .ok (.aload_n 0, 1) := by decide +kernel
theorem dX7_hear_21 : decode cX7_hear 21 = .ok (.getfield 63, 3) := by decide +kernel
theorem dX7_hear_24 : decode cX7_hear 24 = .ok (.iload_n 3, 1) := by decide +kernel
theorem dX7_hear_25 : decode cX7_hear 25 = .ok (.iaload, 1) := by decide +kernel
theorem dX7_hear_26 : decode cX7_hear 26 = .ok (.iconst 1, 1) := by decide +kernel
theorem dX7_hear_27 : decode cX7_hear 27 = .ok (.isub, 1) := by decide +kernel
theorem dX7_hear_28 : decode cX7_hear 28 = .ok (.i2l, 1) := by decide +kernel
theorem dX7_hear_29 : decode cX7_hear 29 = .ok (.invokestatic 133, 3) := by decide +kernel
theorem dX7_hear_32 : decode cX7_hear 32 = .ok (.ifCond .ne 6, 3) := by decide +kernel
theorem dX7_hear_35 : decode cX7_hear 35 = .ok (.bipush (-101), 2) := by decide +kernel
theorem dX7_hear_37 : decode cX7_hear 37 = .ok (.ireturn, 1) := by decide +kernel
theorem dX7_hear_38 : decode cX7_hear 38 = .ok (.aload_n 0, 1) := by decide +kernel
theorem dX7_hear_39 : decode cX7_hear 39 = .ok (.getfield 72, 3) := by decide +kernel
theorem dX7_hear_42 : decode cX7_hear 42 = .ok (.bipush 12, 2) := by decide +kernel
theorem dX7_hear_44 : decode cX7_hear 44 = .ok (.iload_n 3, 1) := by decide +kernel
theorem dX7_hear_45 : decode cX7_hear 45 = .ok (.imul, 1) := by decide +kernel
theorem dX7_hear_46 : decode cX7_hear 46 = .ok (.iload_n 1, 1) := by decide +kernel
theorem dX7_hear_47 : decode cX7_hear 47 = .ok (.iadd, 1) := by decide +kernel
theorem dX7_hear_48 : decode cX7_hear 48 = .ok (.iaload, 1) := by decide +kernel
theorem dX7_hear_49 : decode cX7_hear 49 = .ok (.iconst 1, 1) := by decide +kernel
theorem dX7_hear_50 : decode cX7_hear 50 = .ok (.if_icmp .eq 6, 3) := by decide +kernel
theorem dX7_hear_53 : decode cX7_hear 53 = .ok (.bipush (-103), 2) := by decide +kernel
theorem dX7_hear_55 : decode cX7_hear 55 = .ok (.ireturn, 1) := by decide +kernel
theorem dX7_hear_56 : decode cX7_hear 56 = .ok (.aload_n 0, 1) := by decide +kernel
theorem dX7_hear_57 : decode cX7_hear 57 = .ok (.getfield 72, 3) := by decide +kernel
theorem dX7_hear_60 : decode cX7_hear 60 = .ok (.bipush 12, 2) := by decide +kernel
theorem dX7_hear_62 : decode cX7_hear 62 = .ok (.iload_n 3, 1) := by decide +kernel
theorem dX7_hear_63 : decode cX7_hear 63 = .ok (.imul, 1) := by decide +kernel
theorem dX7_hear_64 : decode cX7_hear 64 = .ok (.iload_n 1, 1) := by decide +kernel
theorem dX7_hear_65 : decode cX7_hear 65 = .ok (.iadd, 1) := by decide +kernel
theorem dX7_hear_66 : decode cX7_hear 66 = .ok (.iload_n 2, 1) := by decide +kernel
theorem dX7_hear_67 : decode cX7_hear 67 = .ok (.ifCond .eq 7, 3) := by decide +kernel
theorem dX7_hear_70 : decode cX7_hear 70 = .ok (.iconst 3, 1) := by decide +kernel
theorem dX7_hear_71 : decode cX7_hear 71 = .ok (.goto 4, 3) := by decide +kernel
theorem dX7_hear_74 : decode cX7_hear 74 = .ok (.iconst 2, 1) := by decide +kernel
theorem dX7_hear_75 : decode cX7_hear 75 = .ok (.iastore, 1) := by decide +kernel
theorem dX7_hear_76 : decode cX7_hear 76 = .ok (.aload_n 0, 1) := by decide +kernel
theorem dX7_hear_77 : decode cX7_hear 77 = .ok (.invokevirtual 206, 3) := by decide +kernel
theorem dX7_hear_80 : decode cX7_hear 80 = .ok (.iconst 1, 1) := by decide +kernel
theorem dX7_hear_81 : decode cX7_hear 81 = .ok (.ireturn, 1) := by decide +kernel
theorem dX7_mayEnter_0 : decode cX7_mayEnter 0 = .ok (.aload_n 0, 1) := by decide +kernel
theorem dX7_mayEnter_1 : decode cX7_mayEnter 1 = .ok (.getfield 72, 3) := by decide +kernel
theorem dX7_mayEnter_4 : decode cX7_mayEnter 4 = .ok (.bipush 12, 2) := by decide +kernel
theorem dX7_mayEnter_6 : decode cX7_mayEnter 6 = .ok (.iload_n 1, 1) := by decide +kernel
theorem dX7_mayEnter_7 : decode cX7_mayEnter 7 = .ok (.imul, 1) := by decide +kernel
theorem dX7_mayEnter_8 : decode cX7_mayEnter 8 = .ok (.iload_n 2, 1) := by decide +kernel
theorem dX7_mayEnter_9 : decode cX7_mayEnter 9 = .ok (.iadd, 1) := by decide +kernel
theorem dX7_mayEnter_10 : decode cX7_mayEnter 10 = .ok (.iaload, 1) := by decide +kernel
theorem dX7_mayEnter_11 : decode cX7_mayEnter 11 = .ok (.ifCond .eq 18, 3) := by decide +kernel
theorem dX7_mayEnter_14 : decode cX7_mayEnter 14 = .ok (.aload_n 0, 1) := by decide +kernel
theorem dX7_mayEnter_15 : decode cX7_mayEnter 15 = .ok (.getfield 72, 3) := by decide +kernel
theorem dX7_mayEnter_18 : decode cX7_mayEnter 18 = .ok (.bipush 12, 2) := by decide +kernel
theorem dX7_mayEnter_20 : decode cX7_mayEnter 20 = .ok (.iload_n 1, 1) := by decide +kernel
theorem dX7_mayEnter_21 : decode cX7_mayEnter 21 = .ok (.imul, 1) := by decide +kernel
theorem dX7_mayEnter_22 : decode cX7_mayEnter 22 = .ok (.iload_n 2, 1) := by decide +kernel
theorem dX7_mayEnter_23 : decode cX7_mayEnter 23 = .ok (.iadd, 1) := by decide +kernel
theorem dX7_mayEnter_24 : decode cX7_mayEnter 24 = .ok (.iaload, 1) := by decide +kernel
theorem dX7_mayEnter_25 : decode cX7_mayEnter 25 = .ok (.iconst 2, 1) := by decide +kernel
theorem dX7_mayEnter_26 : decode cX7_mayEnter 26 = .ok (.if_icmp .ne 7, 3) := by decide +kernel
theorem dX7_mayEnter_29 : decode cX7_mayEnter 29 = .ok (.iconst 1, 1) := by decide +kernel
theorem dX7_mayEnter_30 : decode cX7_mayEnter 30 = .ok (.goto 4, 3) := by decide +kernel
theorem dX7_mayEnter_33 : decode cX7_mayEnter 33 = .ok (.iconst 0, 1) := by decide +kernel
theorem dX7_mayEnter_34 : decode cX7_mayEnter 34 = .ok (.ireturn, 1) := by decide +kernel
theorem dX7_enter_0 : decode cX7_enter 0 = .ok (.aload_n 0, 1) := by decide +kernel
theorem dX7_enter_1 : decode cX7_enter 1 = .ok (.getfield 200, 3) := by decide +kernel
theorem dX7_enter_4 : decode cX7_enter 4 = .ok (.ifCond .ne 6, 3) := by decide +kernel
theorem dX7_enter_7 : decode cX7_enter 7 = .ok (.bipush (-103), 2) := by decide +kernel
theorem dX7_enter_9 : decode cX7_enter 9 = .ok (.ireturn, 1) := by decide +kernel
theorem dX7_enter_10 : decode cX7_enter 10 = .ok (.aload_n 0, 1) := by decide +kernel
theorem dX7_enter_11 : decode cX7_enter 11 = .ok (.getfield 197, 3) := by decide +kernel
theorem dX7_enter_14 : decode cX7_enter 14 = .ok (.iconst 1, 1) := by decide +kernel
theorem dX7_enter_15 : decode cX7_enter 15 = .ok (.isub, 1) := by decide +kernel
theorem dX7_enter_16 : decode cX7_enter 16 = .ok (.istore_n 1, 1) := by decide +kernel
theorem dX7_enter_17 : decode cX7_enter 17 = .ok (.iconst 0, 1) := by decide +kernel
theorem dX7_enter_18 : decode cX7_enter 18 = .ok (.istore_n 2, 1) := by decide +kernel
theorem dX7_enter_19 : decode cX7_enter 19 = .ok (.iconst 0, 1) := by decide +kernel
theorem dX7_enter_20 : decode cX7_enter 20 = .ok (.istore_n 3, 1) := by decide +kernel
theorem dX7_enter_21 : decode cX7_enter 21 = .ok (.iload_n 3, 1) := by decide +kernel
theorem dX7_enter_22 : decode cX7_enter 22 = .ok (.aload_n 0, 1) := by decide +kernel
theorem dX7_enter_23 : decode cX7_enter 23 = .ok (.getfield 63, 3) := by decide +kernel
theorem dX7_enter_26 : decode cX7_enter 26 = .ok (.iload_n 1, 1) := by decide +kernel
theorem dX7_enter_27 : decode cX7_enter 27 = .ok (.iaload, 1) := by decide +kernel
theorem dX7_enter_28 : decode cX7_enter 28 = .ok (.if_icmp .ge 26, 3) := by decide +kernel
theorem dX7_enter_31 : decode cX7_enter 31 = .ok (.iload_n 2, 1) := by decide +kernel
theorem dX7_enter_32 : decode cX7_enter 32 = .ok (.aload_n 0, 1) := by decide +kernel
theorem dX7_enter_33 : decode cX7_enter 33 = .ok (.iload_n 1, 1) := by decide +kernel
theorem dX7_enter_34 : decode cX7_enter 34 = .ok (.iload_n 3, 1) := by decide +kernel
theorem dX7_enter_35 : decode cX7_enter 35 = .ok (.invokevirtual 209, 3) := by decide +kernel
theorem dX7_enter_38 : decode cX7_enter 38 = .ok (.ifCond .eq 7, 3) := by decide +kernel
theorem dX7_enter_41 : decode cX7_enter 41 = .ok (.iconst 1, 1) := by decide +kernel
theorem dX7_enter_42 : decode cX7_enter 42 = .ok (.goto 4, 3) := by decide +kernel
theorem dX7_enter_45 : decode cX7_enter 45 = .ok (.iconst 0, 1) := by decide +kernel
theorem dX7_enter_46 : decode cX7_enter 46 = .ok (.iadd, 1) := by decide +kernel
theorem dX7_enter_47 : decode cX7_enter 47 = .ok (.istore_n 2, 1) := by decide +kernel
theorem dX7_enter_48 : decode cX7_enter 48 = .ok (.iinc 3 1, 3) := by decide +kernel
theorem dX7_enter_51 : decode cX7_enter 51 = .ok (.goto (-30), 3) := by decide +kernel
theorem dX7_enter_54 : decode cX7_enter 54 = .ok (.iload_n 2, 1) := by decide +kernel
theorem dX7_enter_55 : decode cX7_enter 55 = .ok (.ifCond .eq 23, 3) := by decide +kernel
theorem dX7_enter_58 : decode cX7_enter 58 = .ok (.aload_n 0, 1) := by decide +kernel
theorem dX7_enter_59 : decode cX7_enter 59 = .ok (.getfield 174, 3) := by decide +kernel
theorem dX7_enter_62 : decode cX7_enter 62 = .ok (.aload_n 0, 1) := by decide +kernel
theorem dX7_enter_63 : decode cX7_enter 63 = .ok (.getfield 57, 3) := by decide +kernel
theorem dX7_enter_66 : decode cX7_enter 66 = .ok (.iload_n 1, 1) := by decide +kernel
theorem dX7_enter_67 : decode cX7_enter 67 = .ok (.iaload, 1) := by decide +kernel
theorem dX7_enter_68 : decode cX7_enter 68 = .ok (.aload_n 0, 1) := by decide +kernel
theorem dX7_enter_69 : decode cX7_enter 69 = .ok (.getfield 60, 3) := by decide +kernel
theorem dX7_enter_72 : decode cX7_enter 72 = .ok (.iload_n 1, 1) := by decide +kernel
theorem dX7_enter_73 : decode cX7_enter 73 = .ok (.iaload, 1) := by decide +kernel
theorem dX7_enter_74 : decode cX7_enter 74 = .ok (.iadd, 1) := by decide +kernel
theorem dX7_enter_75 : decode cX7_enter 75 = .ok (.if_icmp .ge 6, 3) := by decide +kernel
theorem dX7_enter_78 : decode cX7_enter 78 = .ok (.bipush (-103), 2) := by decide +kernel
theorem dX7_enter_80 : decode cX7_enter 80 = .ok (.ireturn, 1) := by decide +kernel
theorem dX7_enter_81 : decode cX7_enter 81 = .ok (.iconst 0, 1) := by decide +kernel
theorem dX7_enter_82 : decode cX7_enter 82 = .ok (.istore_n 3, 1) := by decide +kernel
theorem dX7_enter_83 : decode cX7_enter 83 = .ok (.iload_n 3, 1) := by decide +kernel
theorem dX7_enter_84 : decode cX7_enter 84 = .ok (.sipush 256, 3) := by decide +kernel
theorem dX7_enter_87 : decode cX7_enter 87 = .ok (.if_icmp .ge 131, 3) := by decide +kernel
theorem dX7_enter_90 : decode cX7_enter 90 = .ok (.aload_n 0, 1) := by decide +kernel
theorem dX7_enter_91 : decode cX7_enter 91 = .ok (.getfield 124, 3) := by decide +kernel
theorem dX7_enter_94 : decode cX7_enter 94 = .ok (.iload_n 3, 1) := by decide +kernel
theorem dX7_enter_95 : decode cX7_enter 95 = .ok (.iconst 0, 1) := by decide +kernel
theorem dX7_enter_96 : decode cX7_enter 96 = .ok (.bastore, 1) := by decide +kernel
theorem dX7_enter_97 : decode cX7_enter 97 = .ok (.aload_n 0, 1) := by decide +kernel
theorem dX7_enter_98 : decode cX7_enter 98 = .ok (.getfield 27, 3) := by decide +kernel
theorem dX7_enter_101 : decode cX7_enter 101 = .ok (.iload_n 3, 1) := by decide +kernel
theorem dX7_enter_102 : decode cX7_enter 102 = .ok (.baload, 1) := by decide +kernel
theorem dX7_enter_103 : decode cX7_enter 103 = .ok (.ifCond .eq 109, 3) := by decide +kernel
theorem dX7_enter_106 : decode cX7_enter 106 = .ok (.aload_n 0, 1) := by decide +kernel
theorem dX7_enter_107 : decode cX7_enter 107 = .ok (.getfield 30, 3) := by decide +kernel
theorem dX7_enter_110 : decode cX7_enter 110 = .ok (.iload_n 3, 1) := by decide +kernel
theorem dX7_enter_111 : decode cX7_enter 111 = .ok (.iaload, 1) := by decide +kernel
theorem dX7_enter_112 : decode cX7_enter 112 = .ok (.ifCond .ne 100, 3) := by decide +kernel
theorem dX7_enter_115 : decode cX7_enter 115 = .ok (.aload_n 0, 1) := by decide +kernel
theorem dX7_enter_116 : decode cX7_enter 116 = .ok (.getfield 16, 3) := by decide +kernel
theorem dX7_enter_119 : decode cX7_enter 119 = .ok (.iload_n 3, 1) := by decide +kernel
theorem dX7_enter_120 : decode cX7_enter 120 = .ok (.iaload, 1) := by decide +kernel
theorem dX7_enter_121 : decode cX7_enter 121 = .ok (.iconst (-1), 1) := by decide +kernel
theorem dX7_enter_122 : decode cX7_enter 122 = .ok (.if_icmp .ne 16, 3) := by decide +kernel
theorem dX7_enter_125 : decode cX7_enter 125 = .ok (.aload_n 0, 1) := by decide +kernel
theorem dX7_enter_126 : decode cX7_enter 126 = .ok (.getfield 66, 3) := by decide +kernel
theorem dX7_enter_129 : decode cX7_enter 129 = .ok (.iload_n 1, 1) := by decide +kernel
