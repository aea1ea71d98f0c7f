theorem dX0_init_0 : decode cX0_init 0 = .ok (.aload_n 0, 1) := by decide +kernel
theorem dX0_init_1 : decode cX0_init 1 = .ok (.invokespecial 3, 3) := by decide +kernel
theorem dX0_init_4 : decode cX0_init 4 = .ok (.aload_n 0, 1) := by decide +kernel
theorem dX0_init_5 : decode cX0_init 5 = .ok (.iconst 4, 1) := by decide +kernel
theorem dX0_init_6 : decode cX0_init 6 = .ok (.newarray .long, 2) := by decide +kernel
theorem dX0_init_8 : decode cX0_init 8 = .ok (.putfield 9, 3) := by decide +kernel
theorem dX0_init_11 : decode cX0_init 11 = .ok (.return_, 1) := by decide +kernel
theorem dX0_begin_0 : decode cX0_begin 0 = .ok (.aload_n 0, 1) := by decide +kernel
theorem dX0_begin_1 : decode cX0_begin 1 = .ok (.iload_n 1, 1) := by decide +kernel
theorem dX0_begin_2 : decode cX0_begin 2 = .ok (.putfield 15, 3) := by decide +kernel
theorem dX0_begin_5 : decode cX0_begin 5 = .ok (.aload_n 0, 1) := by decide +kernel
theorem dX0_begin_6 : decode cX0_begin 6 = .ok (.iload_n 2, 1) := by decide +kernel
theorem dX0_begin_7 : decode cX0_begin 7 = .ok (.putfield 19, 3) := by decide +kernel
theorem dX0_begin_10 : decode cX0_begin 10 = .ok (.aload_n 0, 1) := by decide +kernel
theorem dX0_begin_11 : decode cX0_begin 11 = .ok (.iconst 0, 1) := by decide +kernel
theorem dX0_begin_12 : decode cX0_begin 12 = .ok (.putfield 22, 3) := by decide +kernel
theorem dX0_begin_15 : decode cX0_begin 15 = .ok (.aload_n 0, 1) := by decide +kernel
theorem dX0_begin_16 : decode cX0_begin 16 = .ok (.iconst 0, 1) := by decide +kernel
theorem dX0_begin_17 : decode cX0_begin 17 = .ok (.putfield 25, 3) := by decide +kernel
theorem dX0_begin_20 : decode cX0_begin 20 = .ok (.aload_n 0, 1) := by decide +kernel
theorem dX0_begin_21 : decode cX0_begin 21 = .ok (.iconst 0, 1) := by decide +kernel
theorem dX0_begin_22 : decode cX0_begin 22 = .ok (.putfield 28, 3) := by decide +kernel
theorem dX0_begin_25 : decode cX0_begin 25 = .ok (.aload_n 0, 1) := by decide +kernel
theorem dX0_begin_26 : decode cX0_begin 26 = .ok (.iconst 0, 1) := by decide +kernel
theorem dX0_begin_27 : decode cX0_begin 27 = .ok (.putfield 31, 3) := by decide +kernel
theorem dX0_begin_30 : decode cX0_begin 30 = .ok (.aload_n 0, 1) := by decide +kernel
theorem dX0_begin_31 : decode cX0_begin 31 = .ok (.lconst 0, 1) := by decide +kernel
theorem dX0_begin_32 : decode cX0_begin 32 = .ok (.putfield 34, 3) := by decide +kernel
theorem dX0_begin_35 : decode cX0_begin 35 = .ok (.aload_n 0, 1) := by decide +kernel
theorem dX0_begin_36 : decode cX0_begin 36 = .ok (.lconst 0, 1) := by decide +kernel
theorem dX0_begin_37 : decode cX0_begin 37 = .ok (.putfield 38, 3) := by decide +kernel
theorem dX0_begin_40 : decode cX0_begin 40 = .ok (.aload_n 0, 1) := by decide +kernel
theorem dX0_begin_41 : decode cX0_begin 41 = .ok (.lconst 0, 1) := by decide +kernel
theorem dX0_begin_42 : decode cX0_begin 42 = .ok (.putfield 41, 3) := by decide +kernel
theorem dX0_begin_45 : decode cX0_begin 45 = .ok (.aload_n 0, 1) := by decide +kernel
theorem dX0_begin_46 : decode cX0_begin 46 = .ok (.lconst 0, 1) := by decide +kernel
theorem dX0_begin_47 : decode cX0_begin 47 = .ok (.putfield 44, 3) := by decide +kernel
theorem dX0_begin_50 : decode cX0_begin 50 = .ok (.aload_n 0, 1) := by decide +kernel
theorem dX0_begin_51 : decode cX0_begin 51 = .ok (.lconst 0, 1) := by decide +kernel
theorem dX0_begin_52 : decode cX0_begin 52 = .ok (.putfield 47, 3) := by decide +kernel
theorem dX0_begin_55 : decode cX0_begin 55 = .ok (.aload_n 0, 1) := by decide +kernel
theorem dX0_begin_56 : decode cX0_begin 56 = .ok (.lconst 0, 1) := by decide +kernel
theorem dX0_begin_57 : decode cX0_begin 57 = .ok (.putfield 50, 3) := by decide +kernel
theorem dX0_begin_60 : decode cX0_begin 60 = .ok (.aload_n 0, 1) := by decide +kernel
theorem dX0_begin_61 : decode cX0_begin 61 = .ok (.lconst 0, 1) := by decide +kernel
theorem dX0_begin_62 : decode cX0_begin 62 = .ok (.putfield 53, 3) := by decide +kernel
theorem dX0_begin_65 : decode cX0_begin 65 = .ok (.aload_n 0, 1) := by decide +kernel
theorem dX0_begin_66 : decode cX0_begin 66 = .ok (.lconst 0, 1) := by decide +kernel
theorem dX0_begin_67 : decode cX0_begin 67 = .ok (.putfield 56, 3) := by decide +kernel
theorem dX0_begin_70 : decode cX0_begin 70 = .ok (.aload_n 0, 1) := by decide +kernel
theorem dX0_begin_71 : decode cX0_begin 71 = .ok (.lconst 0, 1) := by decide +kernel
theorem dX0_begin_72 : decode cX0_begin 72 = .ok (.putfield 59, 3) := by decide +kernel
theorem dX0_begin_75 : decode cX0_begin 75 = .ok (.iconst 0, 1) := by decide +kernel
theorem dX0_begin_76 : decode cX0_begin 76 = .ok (.istore_n 3, 1) := by decide +kernel
theorem dX0_begin_77 : decode cX0_begin 77 = .ok (.iload_n 3, 1) := by decide +kernel
theorem dX0_begin_78 : decode cX0_begin 78 = .ok (.iconst 4, 1) := by decide +kernel
theorem dX0_begin_79 : decode cX0_begin 79 = .ok (.if_icmp .ge 16, 3) := by decide +kernel
theorem dX0_begin_82 : decode cX0_begin 82 = .ok (.aload_n 0, 1) := by decide +kernel
theorem dX0_begin_83 : decode cX0_begin 83 = .ok (.getfield 9, 3) := by decide +kernel
theorem dX0_begin_86 : decode cX0_begin 86 = .ok (.iload_n 3, 1) := by decide +kernel
theorem dX0_begin_87 : decode cX0_begin 87 = .ok (.lconst 0, 1) := by decide +kernel
theorem dX0_begin_88 : decode cX0_begin 88 = .ok (.lastore, 1) := by decide +kernel
theorem dX0_begin_89 : decode cX0_begin 89 = .ok (.iinc 3 1, 3) := by decide +kernel
theorem dX0_begin_92 : decode cX0_begin 92 = .ok (.goto (-15), 3) := by decide +kernel
theorem dX0_begin_95 : decode cX0_begin 95 = .ok (.return_, 1) := by decide +kernel
theorem dX0_isReady_0 : decode cX0_isReady 0 = .ok (.aload_n 0, 1) := by decide +kernel
theorem dX0_isReady_1 : decode cX0_isReady 1 = .ok (.getfield 22, 3) := by decide +kernel
theorem dX0_isReady_4 : decode cX0_isReady 4 = .ok (.ifCond .eq 11, 3) := by decide +kernel
theorem dX0_isReady_7 : decode cX0_isReady 7 = .ok (.aload_n 0, 1) := by decide +kernel
theorem dX0_isReady_8 : decode cX0_isReady 8 = .ok (.getfield 22, 3) := by decide +kernel
theorem dX0_isReady_11 : decode cX0_isReady 11 = .ok (.iconst 2, 1) := by decide +kernel
theorem dX0_isReady_12 : decode cX0_isReady 12 = .ok (.if_icmp .ne 7, 3) := by decide +kernel
theorem dX0_isReady_15 : decode cX0_isReady 15 = .ok (.iconst 1, 1) := by decide +kernel
theorem dX0_isReady_16 : decode cX0_isReady 16 = .ok (.goto 4, 3) := by decide +kernel
theorem dX0_isReady_19 : decode cX0_isReady 19 = .ok (.iconst 0, 1) := by decide +kernel
theorem dX0_isReady_20 : decode cX0_isReady 20 = .ok (.ireturn, 1) := by decide +kernel
theorem dX0_enterOn_0 : decode cX0_enterOn 0 = .ok (.aload_n 0, 1) := by decide +kernel
theorem dX0_enterOn_1 : decode cX0_enterOn 1 = .ok (.iconst 4, 1) := by decide +kernel
theorem dX0_enterOn_2 : decode cX0_enterOn 2 = .ok (.putfield 22, 3) := by decide +kernel
theorem dX0_enterOn_5 : decode cX0_enterOn 5 = .ok (.aload_n 0, 1) := by decide +kernel
theorem dX0_enterOn_6 : decode cX0_enterOn 6 = .ok (.iload_n 1, 1) := by decide +kernel
theorem dX0_enterOn_7 : decode cX0_enterOn 7 = .ok (.putfield 25, 3) := by decide +kernel
theorem dX0_enterOn_10 : decode cX0_enterOn 10 = .ok (.aload_n 0, 1) := by decide +kernel
theorem dX0_enterOn_11 : decode cX0_enterOn 11 = .ok (.iload_n 1, 1) := by decide +kernel
theorem dX0_enterOn_12 : decode cX0_enterOn 12 = .ok (.putfield 31, 3) := by decide +kernel
theorem dX0_enterOn_15 : decode cX0_enterOn 15 = .ok (.aload_n 0, 1) := by decide +kernel
theorem dX0_enterOn_16 : decode cX0_enterOn 16 = .ok (.iload_n 2, 1) := by decide +kernel
theorem dX0_enterOn_17 : decode cX0_enterOn 17 = .ok (.putfield 28, 3) := by decide +kernel
theorem dX0_enterOn_20 : decode cX0_enterOn 20 = .ok (.return_, 1) := by decide +kernel
theorem dX0_owed_0 : decode cX0_owed 0 = .ok (.aload_n 0, 1) := by decide +kernel
theorem dX0_owed_1 : decode cX0_owed 1 = .ok (.getfield 47, 3) := by decide +kernel
theorem dX0_owed_4 : decode cX0_owed 4 = .ok (.aload_n 0, 1) := by decide +kernel
theorem dX0_owed_5 : decode cX0_owed 5 = .ok (.getfield 50, 3) := by decide +kernel
theorem dX0_owed_8 : decode cX0_owed 8 = .ok (.lsub, 1) := by decide +kernel
theorem dX0_owed_9 : decode cX0_owed 9 = .ok (.lreturn, 1) := by decide +kernel
theorem dX0_interestOn_0 : decode cX0_interestOn 0 = .ok (.aload_n 0, 1) := by decide +kernel
theorem dX0_interestOn_1 : decode cX0_interestOn 1 = .ok (.getfield 53, 3) := by decide +kernel
theorem dX0_interestOn_4 : decode cX0_interestOn 4 = .ok (.aload_n 0, 1) := by decide +kernel
theorem dX0_interestOn_5 : decode cX0_interestOn 5 = .ok (.invokevirtual 62, 3) := by decide +kernel
theorem dX0_interestOn_8 : decode cX0_interestOn 8 = .ok (.aload_n 0, 1) := by decide +kernel
theorem dX0_interestOn_9 : decode cX0_interestOn 9 = .ok (.getfield 28, 3) := by decide +kernel
theorem dX0_interestOn_12 : decode cX0_interestOn 12 = .ok (.i2l, 1) := by decide +kernel
theorem dX0_interestOn_13 : decode cX0_interestOn 13 = .ok (.lmul, 1) := by decide +kernel
theorem dX0_interestOn_14 : decode cX0_interestOn 14 = .ok (.iload_n 1, 1) := by decide +kernel
theorem dX0_interestOn_15 : decode cX0_interestOn 15 = .ok (.aload_n 0, 1) := by decide +kernel
theorem dX0_interestOn_16 : decode cX0_interestOn 16 = .ok (.getfield 31, 3) := by decide +kernel
theorem dX0_interestOn_19 : decode cX0_interestOn 19 = .ok (.isub, 1) := by decide +kernel
theorem dX0_interestOn_20 : decode cX0_interestOn 20 = .ok (.i2l, 1) := by decide +kernel
theorem dX0_interestOn_21 : decode cX0_interestOn 21 = .ok (.lmul, 1) := by decide +kernel
theorem dX0_interestOn_22 : decode cX0_interestOn 22 = .ok (.ldc2_w 66, 3) := by decide +kernel
theorem dX0_interestOn_25 : decode cX0_interestOn 25 = .ok (.ldiv, 1) := by decide +kernel
theorem dX0_interestOn_26 : decode cX0_interestOn 26 = .ok (.ladd, 1) := by decide +kernel
theorem dX0_interestOn_27 : decode cX0_interestOn 27 = .ok (.lreturn, 1) := by decide +kernel
theorem dX0_receive_0 : decode cX0_receive 0 = .ok (.aload_n 0, 1) := by decide +kernel
theorem dX0_receive_1 : decode cX0_receive 1 = .ok (.iload_n 3, 1) := by decide +kernel
theorem dX0_receive_2 : decode cX0_receive 2 = .ok (.invokevirtual 68, 3) := by decide +kernel
theorem dX0_receive_5 : decode cX0_receive 5 = .ok (.lstore 4, 2) := by decide +kernel
theorem dX0_receive_7 : decode cX0_receive 7 = .ok (.lload_n 1, 1) := by decide +kernel
theorem dX0_receive_8 : decode cX0_receive 8 = .ok (.lload 4, 2) := by decide +kernel
theorem dX0_receive_10 : decode cX0_receive 10 = .ok (.invokestatic 72, 3) := by decide +kernel
theorem dX0_receive_13 : decode cX0_receive 13 = .ok (.lstore 6, 2) := by decide +kernel
theorem dX0_receive_15 : decode cX0_receive 15 = .ok (.lload_n 1, 1) := by decide +kernel
theorem dX0_receive_16 : decode cX0_receive 16 = .ok (.lload 6, 2) := by decide +kernel
theorem dX0_receive_18 : decode cX0_receive 18 = .ok (.lsub, 1) := by decide +kernel
theorem dX0_receive_19 : decode cX0_receive 19 = .ok (.aload_n 0, 1) := by decide +kernel
theorem dX0_receive_20 : decode cX0_receive 20 = .ok (.invokevirtual 62, 3) := by decide +kernel
theorem dX0_receive_23 : decode cX0_receive 23 = .ok (.invokestatic 72, 3) := by decide +kernel
theorem dX0_receive_26 : decode cX0_receive 26 = .ok (.lstore 8, 2) := by decide +kernel
theorem dX0_receive_28 : decode cX0_receive 28 = .ok (.aload_n 0, 1) := by decide +kernel
theorem dX0_receive_29 : decode cX0_receive 29 = .ok (.lload 4, 2) := by decide +kernel
theorem dX0_receive_31 : decode cX0_receive 31 = .ok (.lload 6, 2) := by decide +kernel
theorem dX0_receive_33 : decode cX0_receive 33 = .ok (.lsub, 1) := by decide +kernel
theorem dX0_receive_34 : decode cX0_receive 34 = .ok (.putfield 53, 3) := by decide +kernel
theorem dX0_receive_37 : decode cX0_receive 37 = .ok (.aload_n 0, 1) := by decide +kernel
theorem dX0_receive_38 : decode cX0_receive 38 = .ok (.iload_n 3, 1) := by decide +kernel
theorem dX0_receive_39 : decode cX0_receive 39 = .ok (.putfield 31, 3) := by decide +kernel
theorem dX0_receive_42 : decode cX0_receive 42 = .ok (.aload_n 0, 1) := by decide +kernel
theorem dX0_receive_43 : decode cX0_receive 43 = .ok (.dup, 1) := by decide +kernel
theorem dX0_receive_44 : decode cX0_receive 44 = .ok (.getfield 56, 3) := by decide +kernel
theorem dX0_receive_47 : decode cX0_receive 47 = .ok (.lload 6, 2) := by decide +kernel
theorem dX0_receive_49 : decode cX0_receive 49 = .ok (.ladd, 1) := by decide +kernel
theorem dX0_receive_50 : decode cX0_receive 50 = .ok (.putfield 56, 3) := by decide +kernel
theorem dX0_receive_53 : decode cX0_receive 53 = .ok (.aload_n 0, 1) := by decide +kernel
theorem dX0_receive_54 : decode cX0_receive 54 = .ok (.dup, 1) := by decide +kernel
theorem dX0_receive_55 : decode cX0_receive 55 = .ok (.getfield 50, 3) := by decide +kernel
theorem dX0_receive_58 : decode cX0_receive 58 = .ok (.lload 8, 2) := by decide +kernel
theorem dX0_receive_60 : decode cX0_receive 60 = .ok (.ladd, 1) := by decide +kernel
theorem dX0_receive_61 : decode cX0_receive 61 = .ok (.putfield 50, 3) := by decide +kernel
theorem dX0_receive_64 : decode cX0_receive 64 = .ok (.lload 6, 2) := by decide +kernel
theorem dX0_receive_66 : decode cX0_receive 66 = .ok (.lload 8, 2) := by decide +kernel
theorem dX0_receive_68 : decode cX0_receive 68 = .ok (.ladd, 1) := by decide +kernel
theorem dX0_receive_69 : decode cX0_receive 69 = .ok (.lreturn, 1) := by decide +kernel
theorem dX0_tell_0 : decode cX0_tell 0 = .ok (.iload_n 1, 1) := by decide +kernel
theorem dX0_tell_1 : decode cX0_tell 1 = .ok (.tableswitch 137 0 12 #[67, 73, 79, 85, 90, 95, 100, 105, 110, 115, 120, 126, 131], 67) := by decide +kernel
theorem dX0_tell_68 : decode cX0_tell 68 = .ok (.aload_n 0, 1) := by decide +kernel
theorem dX0_tell_69 : decode cX0_tell 69 = .ok (.getfield 15, 3) := by decide +kernel
theorem dX0_tell_72 : decode cX0_tell 72 = .ok (.i2l, 1) := by decide +kernel
theorem dX0_tell_73 : decode cX0_tell 73 = .ok (.lreturn, 1) := by decide +kernel
theorem dX0_tell_74 : decode cX0_tell 74 = .ok (.aload_n 0, 1) := by decide +kernel
theorem dX0_tell_75 : decode cX0_tell 75 = .ok (.getfield 22, 3) := by decide +kernel
theorem dX0_tell_78 : decode cX0_tell 78 = .ok (.i2l, 1) := by decide +kernel
theorem dX0_tell_79 : decode cX0_tell 79 = .ok (.lreturn, 1) := by decide +kernel
theorem dX0_tell_80 : decode cX0_tell 80 = .ok (.aload_n 0, 1) := by decide +kernel
theorem dX0_tell_81 : decode cX0_tell 81 = .ok (.getfield 25, 3) := by decide +kernel
theorem dX0_tell_84 : decode cX0_tell 84 = .ok (.i2l, 1) := by decide +kernel
theorem dX0_tell_85 : decode cX0_tell 85 = .ok (.lreturn, 1) := by decide +kernel
theorem dX0_tell_86 : decode cX0_tell 86 = .ok (.aload_n 0, 1) := by decide +kernel
theorem dX0_tell_87 : decode cX0_tell 87 = .ok (.getfield 34, 3) := by decide +kernel
theorem dX0_tell_90 : decode cX0_tell 90 = .ok (.lreturn, 1) := by decide +kernel
theorem dX0_tell_91 : decode cX0_tell 91 = .ok (.aload_n 0, 1) := by decide +kernel
theorem dX0_tell_92 : decode cX0_tell 92 = .ok (.getfield 38, 3) := by decide +kernel
theorem dX0_tell_95 : decode cX0_tell 95 = .ok (.lreturn, 1) := by decide +kernel
theorem dX0_tell_96 : decode cX0_tell 96 = .ok (.aload_n 0, 1) := by decide +kernel
theorem dX0_tell_97 : decode cX0_tell 97 = .ok (.getfield 41, 3) := by decide +kernel
theorem dX0_tell_100 : decode cX0_tell 100 = .ok (.lreturn, 1) := by decide +kernel
theorem dX0_tell_101 : decode cX0_tell 101 = .ok (.aload_n 0, 1) := by decide +kernel
theorem dX0_tell_102 : decode cX0_tell 102 = .ok (.getfield 44, 3) := by decide +kernel
theorem dX0_tell_105 : decode cX0_tell 105 = .ok (.lreturn, 1) := by decide +kernel
theorem dX0_tell_106 : decode cX0_tell 106 = .ok (.aload_n 0, 1) := by decide +kernel
theorem dX0_tell_107 : decode cX0_tell 107 = .ok (.getfield 47, 3) := by decide +kernel
theorem dX0_tell_110 : decode cX0_tell 110 = .ok (.lreturn, 1) := by decide +kernel
theorem dX0_tell_111 : decode cX0_tell 111 = .ok (.aload_n 0, 1) := by decide +kernel
theorem dX0_tell_112 : decode cX0_tell 112 = .ok (.getfield 50, 3) := by decide +kernel
theorem dX0_tell_115 : decode cX0_tell 115 = .ok (.lreturn, 1) := by decide +kernel
theorem dX0_tell_116 : decode cX0_tell 116 = .ok (.aload_n 0, 1) := by decide +kernel
theorem dX0_tell_117 : decode cX0_tell 117 = .ok (.invokevirtual 62, 3) := by decide +kernel
theorem dX0_tell_120 : decode cX0_tell 120 = .ok (.lreturn, 1) := by decide +kernel
theorem dX0_tell_121 : decode cX0_tell 121 = .ok (.aload_n 0, 1) := by decide +kernel
theorem dX0_tell_122 : decode cX0_tell 122 = .ok (.iload_n 2, 1) := by decide +kernel
theorem dX0_tell_123 : decode cX0_tell 123 = .ok (.invokevirtual 68, 3) := by decide +kernel
theorem dX0_tell_126 : decode cX0_tell 126 = .ok (.lreturn, 1) := by decide +kernel
theorem dX0_tell_127 : decode cX0_tell 127 = .ok (.aload_n 0, 1) := by decide +kernel
theorem dX0_tell_128 : decode cX0_tell 128 = .ok (.getfield 56, 3) := by decide +kernel
theorem dX0_tell_131 : decode cX0_tell 131 = .ok (.lreturn, 1) := by decide +kernel
theorem dX0_tell_132 : decode cX0_tell 132 = .ok (.aload_n 0, 1) := by decide +kernel
theorem dX0_tell_133 : decode cX0_tell 133 = .ok (.getfield 19, 3) := by decide +kernel
theorem dX0_tell_136 : decode cX0_tell 136 = .ok (.i2l, 1) := by decide +kernel
theorem dX0_tell_137 : decode cX0_tell 137 = .ok (.lreturn, 1) := by decide +kernel
theorem dX0_tell_138 : decode cX0_tell 138 = .ok (.aload_n 0, 1) := by decide +kernel
theorem dX0_tell_139 : decode cX0_tell 139 = .ok (.getfield 59, 3) := by decide +kernel
theorem dX0_tell_142 : decode cX0_tell 142 = .ok (.lreturn, 1) := by decide +kernel
theorem dX1_init_0 : decode cX1_init 0 = .ok (.aload_n 0, 1) := by decide +kernel
theorem dX1_init_1 : decode cX1_init 1 = .ok (.invokespecial 3, 3) := by decide +kernel
theorem dX1_init_4 : decode cX1_init 4 = .ok (.aload_n 0, 1) := by decide +kernel
theorem dX1_init_5 : decode cX1_init 5 = .ok (.iconst 4, 1) := by decide +kernel
theorem dX1_init_6 : decode cX1_init 6 = .ok (.newarray .int, 2) := by decide +kernel
theorem dX1_init_8 : decode cX1_init 8 = .ok (.putfield 9, 3) := by decide +kernel
theorem dX1_init_11 : decode cX1_init 11 = .ok (.aload_n 0, 1) := by decide +kernel
theorem dX1_init_12 : decode cX1_init 12 = .ok (.iconst 4, 1) := by decide +kernel
theorem dX1_init_13 : decode cX1_init 13 = .ok (.newarray .int, 2) := by decide +kernel
theorem dX1_init_15 : decode cX1_init 15 = .ok (.putfield 15, 3) := by decide +kernel
theorem dX1_init_18 : decode cX1_init 18 = .ok (.aload_n 0, 1) := by decide +kernel
theorem dX1_init_19 : decode cX1_init 19 = .ok (.iconst 4, 1) := by decide +kernel
theorem dX1_init_20 : decode cX1_init 20 = .ok (.newarray .long, 2) := by decide +kernel
theorem dX1_init_22 : decode cX1_init 22 = .ok (.putfield 18, 3) := by decide +kernel
theorem dX1_init_25 : decode cX1_init 25 = .ok (.return_, 1) := by decide +kernel
theorem dX1_clear_0 : decode cX1_clear 0 = .ok (.aload_n 0, 1) := by decide +kernel
theorem dX1_clear_1 : decode cX1_clear 1 = .ok (.iconst (-1), 1) := by decide +kernel
theorem dX1_clear_2 : decode cX1_clear 2 = .ok (.putfield 22, 3) := by decide +kernel
theorem dX1_clear_5 : decode cX1_clear 5 = .ok (.aload_n 0, 1) := by decide +kernel
theorem dX1_clear_6 : decode cX1_clear 6 = .ok (.iconst 0, 1) := by decide +kernel
theorem dX1_clear_7 : decode cX1_clear 7 = .ok (.putfield 26, 3) := by decide +kernel
theorem dX1_clear_10 : decode cX1_clear 10 = .ok (.return_, 1) := by decide +kernel
theorem dX1_addRight_0 : decode cX1_addRight 0 = .ok (.aload_n 0, 1) := by decide +kernel
theorem dX1_addRight_1 : decode cX1_addRight 1 = .ok (.getfield 26, 3) := by decide +kernel
theorem dX1_addRight_4 : decode cX1_addRight 4 = .ok (.iconst 4, 1) := by decide +kernel
theorem dX1_addRight_5 : decode cX1_addRight 5 = .ok (.if_icmp .lt 6, 3) := by decide +kernel
theorem dX1_addRight_8 : decode cX1_addRight 8 = .ok (.bipush (-104), 2) := by decide +kernel
theorem dX1_addRight_10 : decode cX1_addRight 10 = .ok (.ireturn, 1) := by decide +kernel
theorem dX1_addRight_11 : decode cX1_addRight 11 = .ok (.aload_n 0, 1) := by decide +kernel
theorem dX1_addRight_12 : decode cX1_addRight 12 = .ok (.getfield 9, 3) := by decide +kernel
theorem dX1_addRight_15 : decode cX1_addRight 15 = .ok (.aload_n 0, 1) := by decide +kernel
theorem dX1_addRight_16 : decode cX1_addRight 16 = .ok (.getfield 26, 3) := by decide +kernel
theorem dX1_addRight_19 : decode cX1_addRight 19 = .ok (.iload_n 1, 1) := by decide +kernel
theorem dX1_addRight_20 : decode cX1_addRight 20 = .ok (.iastore, 1) := by decide +kernel
theorem dX1_addRight_21 : decode cX1_addRight 21 = .ok (.aload_n 0, 1) := by decide +kernel
theorem dX1_addRight_22 : decode cX1_addRight 22 = .ok (.getfield 15, 3) := by decide +kernel
theorem dX1_addRight_25 : decode cX1_addRight 25 = .ok (.aload_n 0, 1) := by decide +kernel
theorem dX1_addRight_26 : decode cX1_addRight 26 = .ok (.getfield 26, 3) := by decide +kernel
theorem dX1_addRight_29 : decode cX1_addRight 29 = .ok (.iload_n 2, 1) := by decide +kernel
theorem dX1_addRight_30 : decode cX1_addRight 30 = .ok (.iastore, 1) := by decide +kernel
theorem dX1_addRight_31 : decode cX1_addRight 31 = .ok (.aload_n 0, 1) := by decide +kernel
theorem dX1_addRight_32 : decode cX1_addRight 32 = .ok (.getfield 18, 3) := by decide +kernel
theorem dX1_addRight_35 : decode cX1_addRight 35 = .ok (.aload_n 0, 1) := by decide +kernel
theorem dX1_addRight_36 : decode cX1_addRight 36 = .ok (.getfield 26, 3) := by decide +kernel
theorem dX1_addRight_39 : decode cX1_addRight 39 = .ok (.iload_n 2, 1) := by decide +kernel
theorem dX1_addRight_40 : decode cX1_addRight 40 = .ok (.i2l, 1) := by decide +kernel
theorem dX1_addRight_41 : decode cX1_addRight 41 = .ok (.lastore, 1) := by decide +kernel
theorem dX1_addRight_42 : decode cX1_addRight 42 = .ok (.aload_n 0, 1) := by decide +kernel
theorem dX1_addRight_43 : decode cX1_addRight 43 = .ok (.dup, 1) := by decide +kernel
theorem dX1_addRight_44 : decode cX1_addRight 44 = .ok (.getfield 26, 3) := by decide +kernel
theorem dX1_addRight_47 : decode cX1_addRight 47 = .ok (.iconst 1, 1) := by decide +kernel
theorem dX1_addRight_48 : decode cX1_addRight 48 = .ok (.iadd, 1) := by decide +kernel
theorem dX1_addRight_49 : decode cX1_addRight 49 = .ok (.putfield 26, 3) := by decide +kernel
theorem dX1_addRight_52 : decode cX1_addRight 52 = .ok (.aload_n 0, 1) := by decide +kernel
theorem dX1_addRight_53 : decode cX1_addRight 53 = .ok (.getfield 26, 3) := by decide +kernel
theorem dX1_addRight_56 : decode cX1_addRight 56 = .ok (.ireturn, 1) := by decide +kernel
theorem dX2_init_0 : decode cX2_init 0 = .ok (.aload_n 0, 1) := by decide +kernel
theorem dX2_init_1 : decode cX2_init 1 = .ok (.invokespecial 3, 3) := by decide +kernel
theorem dX2_init_4 : decode cX2_init 4 = .ok (.aload_n 0, 1) := by decide +kernel
theorem dX2_init_5 : decode cX2_init 5 = .ok (.sipush 256, 3) := by decide +kernel
theorem dX2_init_8 : decode cX2_init 8 = .ok (.newarray .int, 2) := by decide +kernel
theorem dX2_init_10 : decode cX2_init 10 = .ok (.putfield 9, 3) := by decide +kernel
theorem dX2_init_13 : decode cX2_init 13 = .ok (.aload_n 0, 1) := by decide +kernel
theorem dX2_init_14 : decode cX2_init 14 = .ok (.sipush 256, 3) := by decide +kernel
theorem dX2_init_17 : decode cX2_init 17 = .ok (.newarray .int, 2) := by decide +kernel
theorem dX2_init_19 : decode cX2_init 19 = .ok (.putfield 15, 3) := by decide +kernel
theorem dX2_init_22 : decode cX2_init 22 = .ok (.aload_n 0, 1) := by decide +kernel
theorem dX2_init_23 : decode cX2_init 23 = .ok (.sipush 256, 3) := by decide +kernel
theorem dX2_init_26 : decode cX2_init 26 = .ok (.newarray .boolean, 2) := by decide +kernel
theorem dX2_init_28 : decode cX2_init 28 = .ok (.putfield 18, 3) := by decide +kernel
theorem dX2_init_31 : decode cX2_init 31 = .ok (.aload_n 0, 1) := by decide +kernel
theorem dX2_init_32 : decode cX2_init 32 = .ok (.sipush 256, 3) := by decide +kernel
theorem dX2_init_35 : decode cX2_init 35 = .ok (.newarray .boolean, 2) := by decide +kernel
theorem dX2_init_37 : decode cX2_init 37 = .ok (.putfield 22, 3) := by decide +kernel
theorem dX2_init_40 : decode cX2_init 40 = .ok (.aload_n 0, 1) := by decide +kernel
theorem dX2_init_41 : decode cX2_init 41 = .ok (.sipush 256, 3) := by decide +kernel
theorem dX2_init_44 : decode cX2_init 44 = .ok (.newarray .int, 2) := by decide +kernel
theorem dX2_init_46 : decode cX2_init 46 = .ok (.putfield 25, 3) := by decide +kernel
theorem dX2_init_49 : decode cX2_init 49 = .ok (.return_, 1) := by decide +kernel
theorem dX2_renew_0 : decode cX2_renew 0 = .ok (.aload_n 0, 1) := by decide +kernel
theorem dX2_renew_1 : decode cX2_renew 1 = .ok (.iload_n 1, 1) := by decide +kernel
theorem dX2_renew_2 : decode cX2_renew 2 = .ok (.putfield 28, 3) := by decide +kernel
theorem dX2_renew_5 : decode cX2_renew 5 = .ok (.aload_n 0, 1) := by decide +kernel
theorem dX2_renew_6 : decode cX2_renew 6 = .ok (.iload_n 2, 1) := by decide +kernel
theorem dX2_renew_7 : decode cX2_renew 7 = .ok (.putfield 32, 3) := by decide +kernel
theorem dX2_renew_10 : decode cX2_renew 10 = .ok (.iconst 0, 1) := by decide +kernel
theorem dX2_renew_11 : decode cX2_renew 11 = .ok (.istore_n 3, 1) := by decide +kernel
theorem dX2_renew_12 : decode cX2_renew 12 = .ok (.iload_n 3, 1) := by decide +kernel
theorem dX2_renew_13 : decode cX2_renew 13 = .ok (.sipush 256, 3) := by decide +kernel
theorem dX2_renew_16 : decode cX2_renew 16 = .ok (.if_icmp .ge 44, 3) := by decide +kernel
theorem dX2_renew_19 : decode cX2_renew 19 = .ok (.aload_n 0, 1) := by decide +kernel
theorem dX2_renew_20 : decode cX2_renew 20 = .ok (.getfield 9, 3) := by decide +kernel
theorem dX2_renew_23 : decode cX2_renew 23 = .ok (.iload_n 3, 1) := by decide +kernel
theorem dX2_renew_24 : decode cX2_renew 24 = .ok (.iconst (-1), 1) := by decide +kernel
theorem dX2_renew_25 : decode cX2_renew 25 = .ok (.iastore, 1) := by decide +kernel
theorem dX2_renew_26 : decode cX2_renew 26 = .ok (.aload_n 0, 1) := by decide +kernel
theorem dX2_renew_27 : decode cX2_renew 27 = .ok (.getfield 15, 3) := by decide +kernel
theorem dX2_renew_30 : decode cX2_renew 30 = .ok (.iload_n 3, 1) := by decide +kernel
theorem dX2_renew_31 : decode cX2_renew 31 = .ok (.iconst 0, 1) := by decide +kernel
theorem dX2_renew_32 : decode cX2_renew 32 = .ok (.iastore, 1) := by decide +kernel
theorem dX2_renew_33 : decode cX2_renew 33 = .ok (.aload_n 0, 1) := by decide +kernel
theorem dX2_renew_34 : decode cX2_renew 34 = .ok (.getfield 18, 3) := by decide +kernel
theorem dX2_renew_37 : decode cX2_renew 37 = .ok (.iload_n 3, 1) := by decide +kernel
theorem dX2_renew_38 : decode cX2_renew 38 = .ok (.iconst 0, 1) := by decide +kernel
theorem dX2_renew_39 : decode cX2_renew 39 = .ok (.bastore, 1) := by decide +kernel
theorem dX2_renew_40 : decode cX2_renew 40 = .ok (.aload_n 0, 1) := by decide +kernel
theorem dX2_renew_41 : decode cX2_renew 41 = .ok (.getfield 22, 3) := by decide +kernel
theorem dX2_renew_44 : decode cX2_renew 44 = .ok (.iload_n 3, 1) := by decide +kernel
theorem dX2_renew_45 : decode cX2_renew 45 = .ok (.iconst 0, 1) := by decide +kernel
theorem dX2_renew_46 : decode cX2_renew 46 = .ok (.bastore, 1) := by decide +kernel
theorem dX2_renew_47 : decode cX2_renew 47 = .ok (.aload_n 0, 1) := by decide +kernel
theorem dX2_renew_48 : decode cX2_renew 48 = .ok (.getfield 25, 3) := by decide +kernel
theorem dX2_renew_51 : decode cX2_renew 51 = .ok (.iload_n 3, 1) := by decide +kernel
theorem dX2_renew_52 : decode cX2_renew 52 = .ok (.iconst (-1), 1) := by decide +kernel
theorem dX2_renew_53 : decode cX2_renew 53 = .ok (.iastore, 1) := by decide +kernel
theorem dX2_renew_54 : decode cX2_renew 54 = .ok (.iinc 3 1, 3) := by decide +kernel
theorem dX2_renew_57 : decode cX2_renew 57 = .ok (.goto (-45), 3) := by decide +kernel
theorem dX2_renew_60 : decode cX2_renew 60 = .ok (.return_, 1) := by decide +kernel
theorem dX2_at_0 : decode cX2_at 0 = .ok (.iload_n 1, 1) := by decide +kernel
theorem dX2_at_1 : decode cX2_at 1 = .ok (.ifCond .lt 39, 3) := by decide +kernel
theorem dX2_at_4 : decode cX2_at 4 = .ok (.iload_n 1, 1) := by decide +kernel
theorem dX2_at_5 : decode cX2_at 5 = .ok (.aload_n 0, 1) := by decide +kernel
theorem dX2_at_6 : decode cX2_at 6 = .ok (.getfield 28, 3) := by decide +kernel
theorem dX2_at_9 : decode cX2_at 9 = .ok (.if_icmp .ge 31, 3) := by decide +kernel
theorem dX2_at_12 : decode cX2_at 12 = .ok (.iload_n 1, 1) := by decide +kernel
theorem dX2_at_13 : decode cX2_at 13 = .ok (.bipush 16, 2) := by decide +kernel
theorem dX2_at_15 : decode cX2_at 15 = .ok (.if_icmp .ge 25, 3) := by decide +kernel
theorem dX2_at_18 : decode cX2_at 18 = .ok (.iload_n 2, 1) := by decide +kernel
theorem dX2_at_19 : decode cX2_at 19 = .ok (.ifCond .lt 21, 3) := by decide +kernel
theorem dX2_at_22 : decode cX2_at 22 = .ok (.iload_n 2, 1) := by decide +kernel
theorem dX2_at_23 : decode cX2_at 23 = .ok (.aload_n 0, 1) := by decide +kernel
theorem dX2_at_24 : decode cX2_at 24 = .ok (.getfield 32, 3) := by decide +kernel
theorem dX2_at_27 : decode cX2_at 27 = .ok (.if_icmp .ge 13, 3) := by decide +kernel
theorem dX2_at_30 : decode cX2_at 30 = .ok (.iload_n 2, 1) := by decide +kernel
theorem dX2_at_31 : decode cX2_at 31 = .ok (.bipush 16, 2) := by decide +kernel
theorem dX2_at_33 : decode cX2_at 33 = .ok (.if_icmp .ge 7, 3) := by decide +kernel
theorem dX2_at_36 : decode cX2_at 36 = .ok (.iconst 1, 1) := by decide +kernel
theorem dX2_at_37 : decode cX2_at 37 = .ok (.goto 4, 3) := by decide +kernel
theorem dX2_at_40 : decode cX2_at 40 = .ok (.iconst 0, 1) := by decide +kernel
theorem dX2_at_41 : decode cX2_at 41 = .ok (.istore_n 3, 1) := by decide +kernel
theorem dX2_at_42 : decode cX2_at 42 = .ok (.iload_n 3, 1) := by decide +kernel
theorem dX2_at_43 : decode cX2_at 43 = .ok (.ifCond .eq 12, 3) := by decide +kernel
theorem dX2_at_46 : decode cX2_at 46 = .ok (.iload_n 2, 1) := by decide +kernel
theorem dX2_at_47 : decode cX2_at 47 = .ok (.bipush 16, 2) := by decide +kernel
theorem dX2_at_49 : decode cX2_at 49 = .ok (.imul, 1) := by decide +kernel
theorem dX2_at_50 : decode cX2_at 50 = .ok (.iload_n 1, 1) := by decide +kernel
theorem dX2_at_51 : decode cX2_at 51 = .ok (.iadd, 1) := by decide +kernel
theorem dX2_at_52 : decode cX2_at 52 = .ok (.goto 4, 3) := by decide +kernel
theorem dX2_at_55 : decode cX2_at 55 = .ok (.iconst (-1), 1) := by decide +kernel
theorem dX2_at_56 : decode cX2_at 56 = .ok (.ireturn, 1) := by decide +kernel
theorem dX2_beside_0 : decode cX2_beside 0 = .ok (.aload_n 0, 1) := by decide +kernel
theorem dX2_beside_1 : decode cX2_beside 1 = .ok (.iload_n 1, 1) := by decide +kernel
theorem dX2_beside_2 : decode cX2_beside 2 = .ok (.bipush 16, 2) := by decide +kernel
theorem dX2_beside_4 : decode cX2_beside 4 = .ok (.irem, 1) := by decide +kernel
theorem dX2_beside_5 : decode cX2_beside 5 = .ok (.getstatic 35, 3) := by decide +kernel
theorem dX2_beside_8 : decode cX2_beside 8 = .ok (.iload_n 2, 1) := by decide +kernel
theorem dX2_beside_9 : decode cX2_beside 9 = .ok (.iaload, 1) := by decide +kernel
theorem dX2_beside_10 : decode cX2_beside 10 = .ok (.iadd, 1) := by decide +kernel
theorem dX2_beside_11 : decode cX2_beside 11 = .ok (.iload_n 1, 1) := by decide +kernel
theorem dX2_beside_12 : decode cX2_beside 12 = .ok (.bipush 16, 2) := by decide +kernel
theorem dX2_beside_14 : decode cX2_beside 14 = .ok (.idiv, 1) := by decide +kernel
theorem dX2_beside_15 : decode cX2_beside 15 = .ok (.getstatic 38, 3) := by decide +kernel
theorem dX2_beside_18 : decode cX2_beside 18 = .ok (.iload_n 2, 1) := by decide +kernel
theorem dX2_beside_19 : decode cX2_beside 19 = .ok (.iaload, 1) := by decide +kernel
theorem dX2_beside_20 : decode cX2_beside 20 = .ok (.iadd, 1) := by decide +kernel
theorem dX2_beside_21 : decode cX2_beside 21 = .ok (.invokevirtual 41, 3) := by decide +kernel
theorem dX2_beside_24 : decode cX2_beside 24 = .ok (.ireturn, 1) := by decide +kernel
theorem dX2_isTaken_0 : decode cX2_isTaken 0 = .ok (.aload_n 0, 1) := by decide +kernel
theorem dX2_isTaken_1 : decode cX2_isTaken 1 = .ok (.getfield 25, 3) := by decide +kernel
theorem dX2_isTaken_4 : decode cX2_isTaken 4 = .ok (.iload_n 1, 1) := by decide +kernel
theorem dX2_isTaken_5 : decode cX2_isTaken 5 = .ok (.iaload, 1) := by decide +kernel
theorem dX2_isTaken_6 : decode cX2_isTaken 6 = .ok (.iconst (-1), 1) := by decide +kernel
theorem dX2_isTaken_7 : decode cX2_isTaken 7 = .ok (.if_icmp .eq 7, 3) := by decide +kernel
theorem dX2_isTaken_10 : decode cX2_isTaken 10 = .ok (.iconst 1, 1) := by decide +kernel
theorem dX2_isTaken_11 : decode cX2_isTaken 11 = .ok (.goto 4, 3) := by decide +kernel
theorem dX2_isTaken_14 : decode cX2_isTaken 14 = .ok (.iconst 0, 1) := by decide +kernel
theorem dX2_isTaken_15 : decode cX2_isTaken 15 = .ok (.ireturn, 1) := by decide +kernel
theorem dX2_isKept_0 : decode cX2_isKept 0 = .ok (.aload_n 0, 1) := by decide +kernel
theorem dX2_isKept_1 : decode cX2_isKept 1 = .ok (.getfield 9, 3) := by decide +kernel
theorem dX2_isKept_4 : decode cX2_isKept 4 = .ok (.iload_n 1, 1) := by decide +kernel
theorem dX2_isKept_5 : decode cX2_isKept 5 = .ok (.iaload, 1) := by decide +kernel
theorem dX2_isKept_6 : decode cX2_isKept 6 = .ok (.iload_n 2, 1) := by decide +kernel
theorem dX2_isKept_7 : decode cX2_isKept 7 = .ok (.if_icmp .ne 17, 3) := by decide +kernel
theorem dX2_isKept_10 : decode cX2_isKept 10 = .ok (.aload_n 0, 1) := by decide +kernel
theorem dX2_isKept_11 : decode cX2_isKept 11 = .ok (.getfield 25, 3) := by decide +kernel
theorem dX2_isKept_14 : decode cX2_isKept 14 = .ok (.iload_n 1, 1) := by decide +kernel
theorem dX2_isKept_15 : decode cX2_isKept 15 = .ok (.iaload, 1) := by decide +kernel
theorem dX2_isKept_16 : decode cX2_isKept 16 = .ok (.iconst (-1), 1) := by decide +kernel
theorem dX2_isKept_17 : decode cX2_isKept 17 = .ok (.if_icmp .ne 7, 3) := by decide +kernel
theorem dX2_isKept_20 : decode cX2_isKept 20 = .ok (.iconst 1, 1) := by decide +kernel
theorem dX2_isKept_21 : decode cX2_isKept 21 = .ok (.goto 4, 3) := by decide +kernel
theorem dX2_isKept_24 : decode cX2_isKept 24 = .ok (.iconst 0, 1) := by decide +kernel
theorem dX2_isKept_25 : decode cX2_isKept 25 = .ok (.ireturn, 1) := by decide +kernel
theorem dX2_isInLineOf_0 : decode cX2_isInLineOf 0 = .ok (.aload_n 0, 1) := by decide +kernel
theorem dX2_isInLineOf_1 : decode cX2_isInLineOf 1 = .ok (.getfield 22, 3) := by decide +kernel
theorem dX2_isInLineOf_4 : decode cX2_isInLineOf 4 = .ok (.iload_n 1, 1) := by decide +kernel
theorem dX2_isInLineOf_5 : decode cX2_isInLineOf 5 = .ok (.baload, 1) := by decide +kernel
theorem dX2_isInLineOf_6 : decode cX2_isInLineOf 6 = .ok (.ifCond .eq 17, 3) := by decide +kernel
theorem dX2_isInLineOf_9 : decode cX2_isInLineOf 9 = .ok (.aload_n 0, 1) := by decide +kernel
theorem dX2_isInLineOf_10 : decode cX2_isInLineOf 10 = .ok (.getfield 9, 3) := by decide +kernel
theorem dX2_isInLineOf_13 : decode cX2_isInLineOf 13 = .ok (.iload_n 1, 1) := by decide +kernel
theorem dX2_isInLineOf_14 : decode cX2_isInLineOf 14 = .ok (.iaload, 1) := by decide +kernel
theorem dX2_isInLineOf_15 : decode cX2_isInLineOf 15 = .ok (.iload_n 2, 1) := by decide +kernel
theorem dX2_isInLineOf_16 : decode cX2_isInLineOf 16 = .ok (.if_icmp .ne 7, 3) := by decide +kernel
theorem dX2_isInLineOf_19 : decode cX2_isInLineOf 19 = .ok (.iconst 1, 1) := by decide +kernel
theorem dX2_isInLineOf_20 : decode cX2_isInLineOf 20 = .ok (.goto 4, 3) := by decide +kernel
theorem dX2_isInLineOf_23 : decode cX2_isInLineOf 23 = .ok (.iconst 0, 1) := by decide +kernel
theorem dX2_isInLineOf_24 : decode cX2_isInLineOf 24 = .ok (.ireturn, 1) := by decide +kernel
theorem dX2_isOpenLane_0 : decode cX2_isOpenLane 0 = .ok (.aload_n 0, 1) := by decide +kernel
theorem dX2_isOpenLane_1 : decode cX2_isOpenLane 1 = .ok (.getfield 18, 3) := by decide +kernel
theorem dX2_isOpenLane_4 : decode cX2_isOpenLane 4 = .ok (.iload_n 1, 1) := by decide +kernel
theorem dX2_isOpenLane_5 : decode cX2_isOpenLane 5 = .ok (.baload, 1) := by decide +kernel
theorem dX2_isOpenLane_6 : decode cX2_isOpenLane 6 = .ok (.ifCond .eq 17, 3) := by decide +kernel
theorem dX2_isOpenLane_9 : decode cX2_isOpenLane 9 = .ok (.aload_n 0, 1) := by decide +kernel
theorem dX2_isOpenLane_10 : decode cX2_isOpenLane 10 = .ok (.getfield 25, 3) := by decide +kernel
theorem dX2_isOpenLane_13 : decode cX2_isOpenLane 13 = .ok (.iload_n 1, 1) := by decide +kernel
theorem dX2_isOpenLane_14 : decode cX2_isOpenLane 14 = .ok (.iaload, 1) := by decide +kernel
theorem dX2_isOpenLane_15 : decode cX2_isOpenLane 15 = .ok (.iconst (-1), 1) := by decide +kernel
theorem dX2_isOpenLane_16 : decode cX2_isOpenLane 16 = .ok (.if_icmp .ne 7, 3) := by decide +kernel
theorem dX2_isOpenLane_19 : decode cX2_isOpenLane 19 = .ok (.iconst 1, 1) := by decide +kernel
theorem dX2_isOpenLane_20 : decode cX2_isOpenLane 20 = .ok (.goto 4, 3) := by decide +kernel
theorem dX2_isOpenLane_23 : decode cX2_isOpenLane 23 = .ok (.iconst 0, 1) := by decide +kernel
theorem dX2_isOpenLane_24 : decode cX2_isOpenLane 24 = .ok (.ireturn, 1) := by decide +kernel
theorem dX2_cellsInLine_0 : decode cX2_cellsInLine 0 = .ok (.iconst 0, 1) := by decide +kernel
theorem dX2_cellsInLine_1 : decode cX2_cellsInLine 1 = .ok (.istore_n 2, 1) := by decide +kernel
theorem dX2_cellsInLine_2 : decode cX2_cellsInLine 2 = .ok (.iconst 0, 1) := by decide +kernel
theorem dX2_cellsInLine_3 : decode cX2_cellsInLine 3 = .ok (.istore_n 3, 1) := by decide +kernel
theorem dX2_cellsInLine_4 : decode cX2_cellsInLine 4 = .ok (.iload_n 3, 1) := by decide +kernel
theorem dX2_cellsInLine_5 : decode cX2_cellsInLine 5 = .ok (.sipush 256, 3) := by decide +kernel
theorem dX2_cellsInLine_8 : decode cX2_cellsInLine 8 = .ok (.if_icmp .ge 26, 3) := by decide +kernel
theorem dX2_cellsInLine_11 : decode cX2_cellsInLine 11 = .ok (.iload_n 2, 1) := by decide +kernel
theorem dX2_cellsInLine_12 : decode cX2_cellsInLine 12 = .ok (.aload_n 0, 1) := by decide +kernel
theorem dX2_cellsInLine_13 : decode cX2_cellsInLine 13 = .ok (.iload_n 3, 1) := by decide +kernel
theorem dX2_cellsInLine_14 : decode cX2_cellsInLine 14 = .ok (.iload_n 1, 1) := by decide +kernel
theorem dX2_cellsInLine_15 : decode cX2_cellsInLine 15 = .ok (.invokevirtual 45, 3) := by decide +kernel
theorem dX2_cellsInLine_18 : decode cX2_cellsInLine 18 = .ok (.ifCond .eq 7, 3) := by decide +kernel
theorem dX2_cellsInLine_21 : decode cX2_cellsInLine 21 = .ok (.iconst 1, 1) := by decide +kernel
theorem dX2_cellsInLine_22 : decode cX2_cellsInLine 22 = .ok (.goto 4, 3) := by decide +kernel
theorem dX2_cellsInLine_25 : decode cX2_cellsInLine 25 = .ok (.iconst 0, 1) := by decide +kernel
theorem dX2_cellsInLine_26 : decode cX2_cellsInLine 26 = .ok (.iadd, 1) := by decide +kernel
theorem dX2_cellsInLine_27 : decode cX2_cellsInLine 27 = .ok (.istore_n 2, 1) := by decide +kernel
theorem dX2_cellsInLine_28 : decode cX2_cellsInLine 28 = .ok (.iinc 3 1, 3) := by decide +kernel
theorem dX2_cellsInLine_31 : decode cX2_cellsInLine 31 = .ok (.goto (-27), 3) := by decide +kernel
theorem dX2_cellsInLine_34 : decode cX2_cellsInLine 34 = .ok (.iload_n 2, 1) := by decide +kernel
theorem dX2_cellsInLine_35 : decode cX2_cellsInLine 35 = .ok (.ireturn, 1) := by decide +kernel
theorem dX2_cellsChosen_0 : decode cX2_cellsChosen 0 = .ok (.iconst 0, 1) := by decide +kernel
theorem dX2_cellsChosen_1 : decode cX2_cellsChosen 1 = .ok (.istore_n 1, 1) := by decide +kernel
theorem dX2_cellsChosen_2 : decode cX2_cellsChosen 2 = .ok (.iconst 0, 1) := by decide +kernel
theorem dX2_cellsChosen_3 : decode cX2_cellsChosen 3 = .ok (.istore_n 2, 1) := by decide +kernel
theorem dX2_cellsChosen_4 : decode cX2_cellsChosen 4 = .ok (.iload_n 2, 1) := by decide +kernel
theorem dX2_cellsChosen_5 : decode cX2_cellsChosen 5 = .ok (.sipush 256, 3) := by decide +kernel
theorem dX2_cellsChosen_8 : decode cX2_cellsChosen 8 = .ok (.if_icmp .ge 26, 3) := by decide +kernel
theorem dX2_cellsChosen_11 : decode cX2_cellsChosen 11 = .ok (.iload_n 1, 1) := by decide +kernel
theorem dX2_cellsChosen_12 : decode cX2_cellsChosen 12 = .ok (.aload_n 0, 1) := by decide +kernel
theorem dX2_cellsChosen_13 : decode cX2_cellsChosen 13 = .ok (.getfield 22, 3) := by decide +kernel
theorem dX2_cellsChosen_16 : decode cX2_cellsChosen 16 = .ok (.iload_n 2, 1) := by decide +kernel
theorem dX2_cellsChosen_17 : decode cX2_cellsChosen 17 = .ok (.baload, 1) := by decide +kernel
theorem dX2_cellsChosen_18 : decode cX2_cellsChosen 18 = .ok (.ifCond .eq 7, 3) := by decide +kernel
theorem dX2_cellsChosen_21 : decode cX2_cellsChosen 21 = .ok (.iconst 1, 1) := by decide +kernel
theorem dX2_cellsChosen_22 : decode cX2_cellsChosen 22 = .ok (.goto 4, 3) := by decide +kernel
theorem dX2_cellsChosen_25 : decode cX2_cellsChosen 25 = .ok (.iconst 0, 1) := by decide +kernel
theorem dX2_cellsChosen_26 : decode cX2_cellsChosen 26 = .ok (.iadd, 1) := by decide +kernel
theorem dX2_cellsChosen_27 : decode cX2_cellsChosen 27 = .ok (.istore_n 1, 1) := by decide +kernel
theorem dX2_cellsChosen_28 : decode cX2_cellsChosen 28 = .ok (.iinc 2 1, 3) := by decide +kernel
theorem dX2_cellsChosen_31 : decode cX2_cellsChosen 31 = .ok (.goto (-27), 3) := by decide +kernel
theorem dX2_cellsChosen_34 : decode cX2_cellsChosen 34 = .ok (.iload_n 1, 1) := by decide +kernel
theorem dX2_cellsChosen_35 : decode cX2_cellsChosen 35 = .ok (.ireturn, 1) := by decide +kernel
theorem dX2_cellsTaken_0 : decode cX2_cellsTaken 0 = .ok (.iconst 0, 1) := by decide +kernel
theorem dX2_cellsTaken_1 : decode cX2_cellsTaken 1 = .ok (.istore_n 1, 1) := by decide +kernel
theorem dX2_cellsTaken_2 : decode cX2_cellsTaken 2 = .ok (.iconst 0, 1) := by decide +kernel
theorem dX2_cellsTaken_3 : decode cX2_cellsTaken 3 = .ok (.istore_n 2, 1) := by decide +kernel
theorem dX2_cellsTaken_4 : decode cX2_cellsTaken 4 = .ok (.iload_n 2, 1) := by decide +kernel
theorem dX2_cellsTaken_5 : decode cX2_cellsTaken 5 = .ok (.sipush 256, 3) := by decide +kernel
theorem dX2_cellsTaken_8 : decode cX2_cellsTaken 8 = .ok (.if_icmp .ge 25, 3) := by decide +kernel
theorem dX2_cellsTaken_11 : decode cX2_cellsTaken 11 = .ok (.iload_n 1, 1) := by decide +kernel
theorem dX2_cellsTaken_12 : decode cX2_cellsTaken 12 = .ok (.aload_n 0, 1) := by decide +kernel
theorem dX2_cellsTaken_13 : decode cX2_cellsTaken 13 = .ok (.iload_n 2, 1) := by decide +kernel
theorem dX2_cellsTaken_14 : decode cX2_cellsTaken 14 = .ok (.invokevirtual 49, 3) := by decide +kernel
theorem dX2_cellsTaken_17 : decode cX2_cellsTaken 17 = .ok (.ifCond .eq 7, 3) := by decide +kernel
theorem dX2_cellsTaken_20 : decode cX2_cellsTaken 20 = .ok (.iconst 1, 1) := by decide +kernel
theorem dX2_cellsTaken_21 : decode cX2_cellsTaken 21 = .ok (.goto 4, 3) := by decide +kernel
theorem dX2_cellsTaken_24 : decode cX2_cellsTaken 24 = .ok (.iconst 0, 1) := by decide +kernel
theorem dX2_cellsTaken_25 : decode cX2_cellsTaken 25 = .ok (.iadd, 1) := by decide +kernel
theorem dX2_cellsTaken_26 : decode cX2_cellsTaken 26 = .ok (.istore_n 1, 1) := by decide +kernel
theorem dX2_cellsTaken_27 : decode cX2_cellsTaken 27 = .ok (.iinc 2 1, 3) := by decide +kernel
theorem dX2_cellsTaken_30 : decode cX2_cellsTaken 30 = .ok (.goto (-26), 3) := by decide +kernel
theorem dX2_cellsTaken_33 : decode cX2_cellsTaken 33 = .ok (.iload_n 1, 1) := by decide +kernel
theorem dX2_cellsTaken_34 : decode cX2_cellsTaken 34 = .ok (.ireturn, 1) := by decide +kernel
theorem dX2_takeLine_0 : decode cX2_takeLine 0 = .ok (.iconst 0, 1) := by decide +kernel
theorem dX2_takeLine_1 : decode cX2_takeLine 1 = .ok (.istore_n 3, 1) := by decide +kernel
theorem dX2_takeLine_2 : decode cX2_takeLine 2 = .ok (.iload_n 3, 1) := by decide +kernel
theorem dX2_takeLine_3 : decode cX2_takeLine 3 = .ok (.sipush 256, 3) := by decide +kernel
theorem dX2_takeLine_6 : decode cX2_takeLine 6 = .ok (.if_icmp .ge 25, 3) := by decide +kernel
theorem dX2_takeLine_9 : decode cX2_takeLine 9 = .ok (.aload_n 0, 1) := by decide +kernel
theorem dX2_takeLine_10 : decode cX2_takeLine 10 = .ok (.iload_n 3, 1) := by decide +kernel
theorem dX2_takeLine_11 : decode cX2_takeLine 11 = .ok (.iload_n 1, 1) := by decide +kernel
theorem dX2_takeLine_12 : decode cX2_takeLine 12 = .ok (.invokevirtual 45, 3) := by decide +kernel
theorem dX2_takeLine_15 : decode cX2_takeLine 15 = .ok (.ifCond .eq 10, 3) := by decide +kernel
theorem dX2_takeLine_18 : decode cX2_takeLine 18 = .ok (.aload_n 0, 1) := by decide +kernel
theorem dX2_takeLine_19 : decode cX2_takeLine 19 = .ok (.getfield 25, 3) := by decide +kernel
theorem dX2_takeLine_22 : decode cX2_takeLine 22 = .ok (.iload_n 3, 1) := by decide +kernel
theorem dX2_takeLine_23 : decode cX2_takeLine 23 = .ok (.iload_n 2, 1) := by decide +kernel
theorem dX2_takeLine_24 : decode cX2_takeLine 24 = .ok (.iastore, 1) := by decide +kernel
theorem dX2_takeLine_25 : decode cX2_takeLine 25 = .ok (.iinc 3 1, 3) := by decide +kernel
theorem dX2_takeLine_28 : decode cX2_takeLine 28 = .ok (.goto (-26), 3) := by decide +kernel
theorem dX2_takeLine_31 : decode cX2_takeLine 31 = .ok (.return_, 1) := by decide +kernel
theorem dX2_giveBack_0 : decode cX2_giveBack 0 = .ok (.iconst 0, 1) := by decide +kernel
theorem dX2_giveBack_1 : decode cX2_giveBack 1 = .ok (.istore_n 2, 1) := by decide +kernel
theorem dX2_giveBack_2 : decode cX2_giveBack 2 = .ok (.iload_n 2, 1) := by decide +kernel
theorem dX2_giveBack_3 : decode cX2_giveBack 3 = .ok (.sipush 256, 3) := by decide +kernel
theorem dX2_giveBack_6 : decode cX2_giveBack 6 = .ok (.if_icmp .ge 26, 3) := by decide +kernel
theorem dX2_giveBack_9 : decode cX2_giveBack 9 = .ok (.aload_n 0, 1) := by decide +kernel
theorem dX2_giveBack_10 : decode cX2_giveBack 10 = .ok (.getfield 25, 3) := by decide +kernel
theorem dX2_giveBack_13 : decode cX2_giveBack 13 = .ok (.iload_n 2, 1) := by decide +kernel
theorem dX2_giveBack_14 : decode cX2_giveBack 14 = .ok (.iaload, 1) := by decide +kernel
theorem dX2_giveBack_15 : decode cX2_giveBack 15 = .ok (.iload_n 1, 1) := by decide +kernel
theorem dX2_giveBack_16 : decode cX2_giveBack 16 = .ok (.if_icmp .ne 10, 3) := by decide +kernel
theorem dX2_giveBack_19 : decode cX2_giveBack 19 = .ok (.aload_n 0, 1) := by decide +kernel
theorem dX2_giveBack_20 : decode cX2_giveBack 20 = .ok (.getfield 25, 3) := by decide +kernel
theorem dX2_giveBack_23 : decode cX2_giveBack 23 = .ok (.iload_n 2, 1) := by decide +kernel
theorem dX2_giveBack_24 : decode cX2_giveBack 24 = .ok (.iconst (-1), 1) := by decide +kernel
theorem dX2_giveBack_25 : decode cX2_giveBack 25 = .ok (.iastore, 1) := by decide +kernel
theorem dX2_giveBack_26 : decode cX2_giveBack 26 = .ok (.iinc 2 1, 3) := by decide +kernel
theorem dX2_giveBack_29 : decode cX2_giveBack 29 = .ok (.goto (-27), 3) := by decide +kernel
theorem dX2_giveBack_32 : decode cX2_giveBack 32 = .ok (.return_, 1) := by decide +kernel
theorem dX2_emptyLine_0 : decode cX2_emptyLine 0 = .ok (.iconst 0, 1) := by decide +kernel
theorem dX2_emptyLine_1 : decode cX2_emptyLine 1 = .ok (.istore_n 1, 1) := by decide +kernel
theorem dX2_emptyLine_2 : decode cX2_emptyLine 2 = .ok (.iload_n 1, 1) := by decide +kernel
theorem dX2_emptyLine_3 : decode cX2_emptyLine 3 = .ok (.sipush 256, 3) := by decide +kernel
theorem dX2_emptyLine_6 : decode cX2_emptyLine 6 = .ok (.if_icmp .ge 16, 3) := by decide +kernel
theorem dX2_emptyLine_9 : decode cX2_emptyLine 9 = .ok (.aload_n 0, 1) := by decide +kernel
theorem dX2_emptyLine_10 : decode cX2_emptyLine 10 = .ok (.getfield 22, 3) := by decide +kernel
theorem dX2_emptyLine_13 : decode cX2_emptyLine 13 = .ok (.iload_n 1, 1) := by decide +kernel
theorem dX2_emptyLine_14 : decode cX2_emptyLine 14 = .ok (.iconst 0, 1) := by decide +kernel
theorem dX2_emptyLine_15 : decode cX2_emptyLine 15 = .ok (.bastore, 1) := by decide +kernel
theorem dX2_emptyLine_16 : decode cX2_emptyLine 16 = .ok (.iinc 1 1, 3) := by decide +kernel
theorem dX2_emptyLine_19 : decode cX2_emptyLine 19 = .ok (.goto (-17), 3) := by decide +kernel
theorem dX2_emptyLine_22 : decode cX2_emptyLine 22 = .ok (.return_, 1) := by decide +kernel
theorem dX2_worthInLine_0 : decode cX2_worthInLine 0 = .ok (.lconst 0, 1) := by decide +kernel
theorem dX2_worthInLine_1 : decode cX2_worthInLine 1 = .ok (.lstore_n 3, 1) := by decide +kernel
theorem dX2_worthInLine_2 : decode cX2_worthInLine 2 = .ok (.iconst 0, 1) := by decide +kernel
theorem dX2_worthInLine_3 : decode cX2_worthInLine 3 = .ok (.istore 5, 2) := by decide +kernel
theorem dX2_worthInLine_5 : decode cX2_worthInLine 5 = .ok (.iload 5, 2) := by decide +kernel
theorem dX2_worthInLine_7 : decode cX2_worthInLine 7 = .ok (.sipush 256, 3) := by decide +kernel
theorem dX2_worthInLine_10 : decode cX2_worthInLine 10 = .ok (.if_icmp .ge 30, 3) := by decide +kernel
theorem dX2_worthInLine_13 : decode cX2_worthInLine 13 = .ok (.aload_n 0, 1) := by decide +kernel
theorem dX2_worthInLine_14 : decode cX2_worthInLine 14 = .ok (.iload 5, 2) := by decide +kernel
theorem dX2_worthInLine_16 : decode cX2_worthInLine 16 = .ok (.iload_n 1, 1) := by decide +kernel
theorem dX2_worthInLine_17 : decode cX2_worthInLine 17 = .ok (.invokevirtual 45, 3) := by decide +kernel
theorem dX2_worthInLine_20 : decode cX2_worthInLine 20 = .ok (.ifCond .eq 14, 3) := by decide +kernel
theorem dX2_worthInLine_23 : decode cX2_worthInLine 23 = .ok (.lload_n 3, 1) := by decide +kernel
theorem dX2_worthInLine_24 : decode cX2_worthInLine 24 = .ok (.aload_n 0, 1) := by decide +kernel
theorem dX2_worthInLine_25 : decode cX2_worthInLine 25 = .ok (.iload 5, 2) := by decide +kernel
theorem dX2_worthInLine_27 : decode cX2_worthInLine 27 = .ok (.aload_n 2, 1) := by decide +kernel
theorem dX2_worthInLine_28 : decode cX2_worthInLine 28 = .ok (.invokevirtual 53, 3) := by decide +kernel
theorem dX2_worthInLine_31 : decode cX2_worthInLine 31 = .ok (.i2l, 1) := by decide +kernel
theorem dX2_worthInLine_32 : decode cX2_worthInLine 32 = .ok (.ladd, 1) := by decide +kernel
theorem dX2_worthInLine_33 : decode cX2_worthInLine 33 = .ok (.lstore_n 3, 1) := by decide +kernel
theorem dX2_worthInLine_34 : decode cX2_worthInLine 34 = .ok (.iinc 5 1, 3) := by decide +kernel
theorem dX2_worthInLine_37 : decode cX2_worthInLine 37 = .ok (.goto (-32), 3) := by decide +kernel
theorem dX2_worthInLine_40 : decode cX2_worthInLine 40 = .ok (.lload_n 3, 1) := by decide +kernel
theorem dX2_worthInLine_41 : decode cX2_worthInLine 41 = .ok (.lreturn, 1) := by decide +kernel
theorem dX2_priceAt_0 : decode cX2_priceAt 0 = .ok (.aload_n 0, 1) := by decide +kernel
theorem dX2_priceAt_1 : decode cX2_priceAt 1 = .ok (.getfield 15, 3) := by decide +kernel
theorem dX2_priceAt_4 : decode cX2_priceAt 4 = .ok (.iload_n 1, 1) := by decide +kernel
theorem dX2_priceAt_5 : decode cX2_priceAt 5 = .ok (.iaload, 1) := by decide +kernel
theorem dX2_priceAt_6 : decode cX2_priceAt 6 = .ok (.istore_n 3, 1) := by decide +kernel
theorem dX2_priceAt_7 : decode cX2_priceAt 7 = .ok (.iload_n 3, 1) := by decide +kernel
theorem dX2_priceAt_8 : decode cX2_priceAt 8 = .ok (.ifCond .lt 15, 3) := by decide +kernel
theorem dX2_priceAt_11 : decode cX2_priceAt 11 = .ok (.iload_n 3, 1) := by decide +kernel
theorem dX2_priceAt_12 : decode cX2_priceAt 12 = .ok (.aload_n 2, 1) := by decide +kernel
theorem dX2_priceAt_13 : decode cX2_priceAt 13 = .ok (.arraylength, 1) := by decide +kernel
theorem dX2_priceAt_14 : decode cX2_priceAt 14 = .ok (.if_icmp .ge 9, 3) := by decide +kernel
theorem dX2_priceAt_17 : decode cX2_priceAt 17 = .ok (.aload_n 2, 1) := by decide +kernel
theorem dX2_priceAt_18 : decode cX2_priceAt 18 = .ok (.iload_n 3, 1) := by decide +kernel
theorem dX2_priceAt_19 : decode cX2_priceAt 19 = .ok (.iaload, 1) := by decide +kernel
theorem dX2_priceAt_20 : decode cX2_priceAt 20 = .ok (.goto 4, 3) := by decide +kernel
theorem dX2_priceAt_23 : decode cX2_priceAt 23 = .ok (.iconst 0, 1) := by decide +kernel
theorem dX2_priceAt_24 : decode cX2_priceAt 24 = .ok (.ireturn, 1) := by decide +kernel
theorem dX2_fenceSides_0 : decode cX2_fenceSides 0 = .ok (.iconst 0, 1) := by decide +kernel
theorem dX2_fenceSides_1 : decode cX2_fenceSides 1 = .ok (.istore_n 2, 1) := by decide +kernel
theorem dX2_fenceSides_2 : decode cX2_fenceSides 2 = .ok (.iconst 0, 1) := by decide +kernel
theorem dX2_fenceSides_3 : decode cX2_fenceSides 3 = .ok (.istore_n 3, 1) := by decide +kernel
theorem dX2_fenceSides_4 : decode cX2_fenceSides 4 = .ok (.iload_n 3, 1) := by decide +kernel
theorem dX2_fenceSides_5 : decode cX2_fenceSides 5 = .ok (.sipush 256, 3) := by decide +kernel
theorem dX2_fenceSides_8 : decode cX2_fenceSides 8 = .ok (.if_icmp .ge 27, 3) := by decide +kernel
theorem dX2_fenceSides_11 : decode cX2_fenceSides 11 = .ok (.aload_n 0, 1) := by decide +kernel
theorem dX2_fenceSides_12 : decode cX2_fenceSides 12 = .ok (.iload_n 3, 1) := by decide +kernel
theorem dX2_fenceSides_13 : decode cX2_fenceSides 13 = .ok (.iload_n 1, 1) := by decide +kernel
theorem dX2_fenceSides_14 : decode cX2_fenceSides 14 = .ok (.invokevirtual 45, 3) := by decide +kernel
theorem dX2_fenceSides_17 : decode cX2_fenceSides 17 = .ok (.ifCond .eq 12, 3) := by decide +kernel
theorem dX2_fenceSides_20 : decode cX2_fenceSides 20 = .ok (.iload_n 2, 1) := by decide +kernel
theorem dX2_fenceSides_21 : decode cX2_fenceSides 21 = .ok (.aload_n 0, 1) := by decide +kernel
theorem dX2_fenceSides_22 : decode cX2_fenceSides 22 = .ok (.iload_n 3, 1) := by decide +kernel
theorem dX2_fenceSides_23 : decode cX2_fenceSides 23 = .ok (.iload_n 1, 1) := by decide +kernel
theorem dX2_fenceSides_24 : decode cX2_fenceSides 24 = .ok (.invokevirtual 57, 3) := by decide +kernel
theorem dX2_fenceSides_27 : decode cX2_fenceSides 27 = .ok (.iadd, 1) := by decide +kernel
theorem dX2_fenceSides_28 : decode cX2_fenceSides 28 = .ok (.istore_n 2, 1) := by decide +kernel
theorem dX2_fenceSides_29 : decode cX2_fenceSides 29 = .ok (.iinc 3 1, 3) := by decide +kernel
theorem dX2_fenceSides_32 : decode cX2_fenceSides 32 = .ok (.goto (-28), 3) := by decide +kernel
theorem dX2_fenceSides_35 : decode cX2_fenceSides 35 = .ok (.iload_n 2, 1) := by decide +kernel
theorem dX2_fenceSides_36 : decode cX2_fenceSides 36 = .ok (.ireturn, 1) := by decide +kernel
theorem dX2_keptSides_0 : decode cX2_keptSides 0 = .ok (.iconst 0, 1) := by decide +kernel
theorem dX2_keptSides_1 : decode cX2_keptSides 1 = .ok (.istore_n 3, 1) := by decide +kernel
theorem dX2_keptSides_2 : decode cX2_keptSides 2 = .ok (.iconst 0, 1) := by decide +kernel
theorem dX2_keptSides_3 : decode cX2_keptSides 3 = .ok (.istore 4, 2) := by decide +kernel
theorem dX2_keptSides_5 : decode cX2_keptSides 5 = .ok (.iload 4, 2) := by decide +kernel
theorem dX2_keptSides_7 : decode cX2_keptSides 7 = .ok (.iconst 4, 1) := by decide +kernel
theorem dX2_keptSides_8 : decode cX2_keptSides 8 = .ok (.if_icmp .ge 37, 3) := by decide +kernel
theorem dX2_keptSides_11 : decode cX2_keptSides 11 = .ok (.aload_n 0, 1) := by decide +kernel
theorem dX2_keptSides_12 : decode cX2_keptSides 12 = .ok (.iload_n 1, 1) := by decide +kernel
theorem dX2_keptSides_13 : decode cX2_keptSides 13 = .ok (.iload 4, 2) := by decide +kernel
theorem dX2_keptSides_15 : decode cX2_keptSides 15 = .ok (.invokevirtual 60, 3) := by decide +kernel
theorem dX2_keptSides_18 : decode cX2_keptSides 18 = .ok (.istore 5, 2) := by decide +kernel
theorem dX2_keptSides_20 : decode cX2_keptSides 20 = .ok (.iload 5, 2) := by decide +kernel
theorem dX2_keptSides_22 : decode cX2_keptSides 22 = .ok (.iconst (-1), 1) := by decide +kernel
theorem dX2_keptSides_23 : decode cX2_keptSides 23 = .ok (.if_icmp .eq 16, 3) := by decide +kernel
theorem dX2_keptSides_26 : decode cX2_keptSides 26 = .ok (.aload_n 0, 1) := by decide +kernel
theorem dX2_keptSides_27 : decode cX2_keptSides 27 = .ok (.iload 5, 2) := by decide +kernel
theorem dX2_keptSides_29 : decode cX2_keptSides 29 = .ok (.iload_n 2, 1) := by decide +kernel
theorem dX2_keptSides_30 : decode cX2_keptSides 30 = .ok (.invokevirtual 63, 3) := by decide +kernel
theorem dX2_keptSides_33 : decode cX2_keptSides 33 = .ok (.ifCond .eq 6, 3) := by decide +kernel
theorem dX2_keptSides_36 : decode cX2_keptSides 36 = .ok (.iinc 3 1, 3) := by decide +kernel
theorem dX2_keptSides_39 : decode cX2_keptSides 39 = .ok (.iinc 4 1, 3) := by decide +kernel
theorem dX2_keptSides_42 : decode cX2_keptSides 42 = .ok (.goto (-37), 3) := by decide +kernel
theorem dX2_keptSides_45 : decode cX2_keptSides 45 = .ok (.iload_n 3, 1) := by decide +kernel
theorem dX2_keptSides_46 : decode cX2_keptSides 46 = .ok (.ireturn, 1) := by decide +kernel
theorem dX3_init_0 : decode cX3_init 0 = .ok (.aload_n 0, 1) := by decide +kernel
theorem dX3_init_1 : decode cX3_init 1 = .ok (.invokespecial 3, 3) := by decide +kernel
theorem dX3_init_4 : decode cX3_init 4 = .ok (.aload_n 0, 1) := by decide +kernel
theorem dX3_init_5 : decode cX3_init 5 = .ok (.bipush 12, 2) := by decide +kernel
theorem dX3_init_7 : decode cX3_init 7 = .ok (.anewarray 9, 3) := by decide +kernel
theorem dX3_init_10 : decode cX3_init 10 = .ok (.putfield 11, 3) := by decide +kernel
theorem dX3_init_13 : decode cX3_init 13 = .ok (.return_, 1) := by decide +kernel
theorem dX3_begin_0 : decode cX3_begin 0 = .ok (.aload_n 0, 1) := by decide +kernel
theorem dX3_begin_1 : decode cX3_begin 1 = .ok (.iload_n 1, 1) := by decide +kernel
theorem dX3_begin_2 : decode cX3_begin 2 = .ok (.putfield 17, 3) := by decide +kernel
theorem dX3_begin_5 : decode cX3_begin 5 = .ok (.aload_n 0, 1) := by decide +kernel
theorem dX3_begin_6 : decode cX3_begin 6 = .ok (.iload_n 2, 1) := by decide +kernel
theorem dX3_begin_7 : decode cX3_begin 7 = .ok (.putfield 21, 3) := by decide +kernel
theorem dX3_begin_10 : decode cX3_begin 10 = .ok (.aload_n 0, 1) := by decide +kernel
theorem dX3_begin_11 : decode cX3_begin 11 = .ok (.iconst 0, 1) := by decide +kernel
theorem dX3_begin_12 : decode cX3_begin 12 = .ok (.putfield 24, 3) := by decide +kernel
theorem dX3_begin_15 : decode cX3_begin 15 = .ok (.return_, 1) := by decide +kernel
theorem dX3_addCase_0 : decode cX3_addCase 0 = .ok (.aload_n 0, 1) := by decide +kernel
theorem dX3_addCase_1 : decode cX3_addCase 1 = .ok (.getfield 24, 3) := by decide +kernel
theorem dX3_addCase_4 : decode cX3_addCase 4 = .ok (.bipush 12, 2) := by decide +kernel
theorem dX3_addCase_6 : decode cX3_addCase 6 = .ok (.if_icmp .lt 4, 3) := by decide +kernel
theorem dX3_addCase_9 : decode cX3_addCase 9 = .ok (.return_, 1) := by decide +kernel
theorem dX3_addCase_10 : decode cX3_addCase 10 = .ok (.aload_n 0, 1) := by decide +kernel
theorem dX3_addCase_11 : decode cX3_addCase 11 = .ok (.getfield 11, 3) := by decide +kernel
theorem dX3_addCase_14 : decode cX3_addCase 14 = .ok (.aload_n 0, 1) := by decide +kernel
theorem dX3_addCase_15 : decode cX3_addCase 15 = .ok (.getfield 24, 3) := by decide +kernel
theorem dX3_addCase_18 : decode cX3_addCase 18 = .ok (.aaload, 1) := by decide +kernel
theorem dX3_addCase_19 : decode cX3_addCase 19 = .ok (.astore_n 3, 1) := by decide +kernel
theorem dX3_addCase_20 : decode cX3_addCase 20 = .ok (.aload_n 3, 1) := by decide +kernel
theorem dX3_addCase_21 : decode cX3_addCase 21 = .ok (.ifnonnull 21, 3) := by decide +kernel
theorem dX3_addCase_24 : decode cX3_addCase 24 = .ok (.new 9, 3) := by decide +kernel
theorem dX3_addCase_27 : decode cX3_addCase 27 = .ok (.dup, 1) := by decide +kernel
theorem dX3_addCase_28 : decode cX3_addCase 28 = .ok (.invokespecial 27, 3) := by decide +kernel
theorem dX3_addCase_31 : decode cX3_addCase 31 = .ok (.astore_n 3, 1) := by decide +kernel
theorem dX3_addCase_32 : decode cX3_addCase 32 = .ok (.aload_n 0, 1) := by decide +kernel
theorem dX3_addCase_33 : decode cX3_addCase 33 = .ok (.getfield 11, 3) := by decide +kernel
theorem dX3_addCase_36 : decode cX3_addCase 36 = .ok (.aload_n 0, 1) := by decide +kernel
theorem dX3_addCase_37 : decode cX3_addCase 37 = .ok (.getfield 24, 3) := by decide +kernel
theorem dX3_addCase_40 : decode cX3_addCase 40 = .ok (.aload_n 3, 1) := by decide +kernel
theorem dX3_addCase_41 : decode cX3_addCase 41 = .ok (.aastore, 1) := by decide +kernel
theorem dX3_addCase_42 : decode cX3_addCase 42 = .ok (.aload_n 0, 1) := by decide +kernel
theorem dX3_addCase_43 : decode cX3_addCase 43 = .ok (.dup, 1) := by decide +kernel
theorem dX3_addCase_44 : decode cX3_addCase 44 = .ok (.getfield 24, 3) := by decide +kernel
theorem dX3_addCase_47 : decode cX3_addCase 47 = .ok (.iconst 1, 1) := by decide +kernel
theorem dX3_addCase_48 : decode cX3_addCase 48 = .ok (.iadd, 1) := by decide +kernel
theorem dX3_addCase_49 : decode cX3_addCase 49 = .ok (.putfield 24, 3) := by decide +kernel
theorem dX3_addCase_52 : decode cX3_addCase 52 = .ok (.aload_n 3, 1) := by decide +kernel
theorem dX3_addCase_53 : decode cX3_addCase 53 = .ok (.iload_n 1, 1) := by decide +kernel
theorem dX3_addCase_54 : decode cX3_addCase 54 = .ok (.iload_n 2, 1) := by decide +kernel
theorem dX3_addCase_55 : decode cX3_addCase 55 = .ok (.invokevirtual 28, 3) := by decide +kernel
theorem dX3_addCase_58 : decode cX3_addCase 58 = .ok (.return_, 1) := by decide +kernel
theorem dX3_caseAt_0 : decode cX3_caseAt 0 = .ok (.iload_n 1, 1) := by decide +kernel
theorem dX3_caseAt_1 : decode cX3_caseAt 1 = .ok (.ifCond .lt 26, 3) := by decide +kernel
theorem dX3_caseAt_4 : decode cX3_caseAt 4 = .ok (.iload_n 1, 1) := by decide +kernel
theorem dX3_caseAt_5 : decode cX3_caseAt 5 = .ok (.aload_n 0, 1) := by decide +kernel
theorem dX3_caseAt_6 : decode cX3_caseAt 6 = .ok (.getfield 24, 3) := by decide +kernel
theorem dX3_caseAt_9 : decode cX3_caseAt 9 = .ok (.if_icmp .ge 18, 3) := by decide +kernel
theorem dX3_caseAt_12 : decode cX3_caseAt 12 = .ok (.iload_n 1, 1) := by decide +kernel
theorem dX3_caseAt_13 : decode cX3_caseAt 13 = .ok (.bipush 12, 2) := by decide +kernel
theorem dX3_caseAt_15 : decode cX3_caseAt 15 = .ok (.if_icmp .ge 12, 3) := by decide +kernel
theorem dX3_caseAt_18 : decode cX3_caseAt 18 = .ok (.aload_n 0, 1) := by decide +kernel
theorem dX3_caseAt_19 : decode cX3_caseAt 19 = .ok (.getfield 11, 3) := by decide +kernel
theorem dX3_caseAt_22 : decode cX3_caseAt 22 = .ok (.iload_n 1, 1) := by decide +kernel
theorem dX3_caseAt_23 : decode cX3_caseAt 23 = .ok (.aaload, 1) := by decide +kernel
theorem dX3_caseAt_24 : decode cX3_caseAt 24 = .ok (.goto 4, 3) := by decide +kernel
theorem dX3_caseAt_27 : decode cX3_caseAt 27 = .ok (.aconst_null, 1) := by decide +kernel
theorem dX3_caseAt_28 : decode cX3_caseAt 28 = .ok (.areturn, 1) := by decide +kernel
theorem dX3_noticeEnd_0 : decode cX3_noticeEnd 0 = .ok (.aload_n 0, 1) := by decide +kernel
theorem dX3_noticeEnd_1 : decode cX3_noticeEnd 1 = .ok (.getfield 17, 3) := by decide +kernel
theorem dX3_noticeEnd_4 : decode cX3_noticeEnd 4 = .ok (.aload_n 0, 1) := by decide +kernel
theorem dX3_noticeEnd_5 : decode cX3_noticeEnd 5 = .ok (.getfield 21, 3) := by decide +kernel
theorem dX3_noticeEnd_8 : decode cX3_noticeEnd 8 = .ok (.iadd, 1) := by decide +kernel
theorem dX3_noticeEnd_9 : decode cX3_noticeEnd 9 = .ok (.ireturn, 1) := by decide +kernel
theorem dX3_hasReady_0 : decode cX3_hasReady 0 = .ok (.iconst 0, 1) := by decide +kernel
theorem dX3_hasReady_1 : decode cX3_hasReady 1 = .ok (.istore_n 1, 1) := by decide +kernel
theorem dX3_hasReady_2 : decode cX3_hasReady 2 = .ok (.iload_n 1, 1) := by decide +kernel
theorem dX3_hasReady_3 : decode cX3_hasReady 3 = .ok (.aload_n 0, 1) := by decide +kernel
theorem dX3_hasReady_4 : decode cX3_hasReady 4 = .ok (.getfield 24, 3) := by decide +kernel
theorem dX3_hasReady_7 : decode cX3_hasReady 7 = .ok (.if_icmp .ge 28, 3) := by decide +kernel
theorem dX3_hasReady_10 : decode cX3_hasReady 10 = .ok (.aload_n 0, 1) := by decide +kernel
theorem dX3_hasReady_11 : decode cX3_hasReady 11 = .ok (.iload_n 1, 1) := by decide +kernel
theorem dX3_hasReady_12 : decode cX3_hasReady 12 = .ok (.invokevirtual 32, 3) := by decide +kernel
theorem dX3_hasReady_15 : decode cX3_hasReady 15 = .ok (.astore_n 2, 1) := by decide +kernel
theorem dX3_hasReady_16 : decode cX3_hasReady 16 = .ok (.aload_n 2, 1) := by decide +kernel
theorem dX3_hasReady_17 : decode cX3_hasReady 17 = .ok (.ifnull 12, 3) := by decide +kernel
theorem dX3_hasReady_20 : decode cX3_hasReady 20 = .ok (.aload_n 2, 1) := by decide +kernel
theorem dX3_hasReady_21 : decode cX3_hasReady 21 = .ok (.invokevirtual 36, 3) := by decide +kernel
theorem dX3_hasReady_24 : decode cX3_hasReady 24 = .ok (.ifCond .eq 5, 3) := by decide +kernel
theorem dX3_hasReady_27 : decode cX3_hasReady 27 = .ok (.iconst 1, 1) := by decide +kernel
theorem dX3_hasReady_28 : decode cX3_hasReady 28 = .ok (.ireturn, 1) := by decide +kernel
theorem dX3_hasReady_29 : decode cX3_hasReady 29 = .ok (.iinc 1 1, 3) := by decide +kernel
theorem dX3_hasReady_32 : decode cX3_hasReady 32 = .ok (.goto (-30), 3) := by decide +kernel
theorem dX3_hasReady_35 : decode cX3_hasReady 35 = .ok (.iconst 0, 1) := by decide +kernel
theorem dX3_hasReady_36 : decode cX3_hasReady 36 = .ok (.ireturn, 1) := by decide +kernel
theorem dX3_isDone_0 : decode cX3_isDone 0 = .ok (.iconst 0, 1) := by decide +kernel
theorem dX3_isDone_1 : decode cX3_isDone 1 = .ok (.istore_n 1, 1) := by decide +kernel
theorem dX3_isDone_2 : decode cX3_isDone 2 = .ok (.iload_n 1, 1) := by decide +kernel
theorem dX3_isDone_3 : decode cX3_isDone 3 = .ok (.aload_n 0, 1) := by decide +kernel
theorem dX3_isDone_4 : decode cX3_isDone 4 = .ok (.getfield 24, 3) := by decide +kernel
theorem dX3_isDone_7 : decode cX3_isDone 7 = .ok (.if_icmp .ge 37, 3) := by decide +kernel
theorem dX3_isDone_10 : decode cX3_isDone 10 = .ok (.aload_n 0, 1) := by decide +kernel
theorem dX3_isDone_11 : decode cX3_isDone 11 = .ok (.iload_n 1, 1) := by decide +kernel
theorem dX3_isDone_12 : decode cX3_isDone 12 = .ok (.invokevirtual 32, 3) := by decide +kernel
theorem dX3_isDone_15 : decode cX3_isDone 15 = .ok (.astore_n 2, 1) := by decide +kernel
theorem dX3_isDone_16 : decode cX3_isDone 16 = .ok (.aload_n 2, 1) := by decide +kernel
theorem dX3_isDone_17 : decode cX3_isDone 17 = .ok (.ifnull 21, 3) := by decide +kernel
theorem dX3_isDone_20 : decode cX3_isDone 20 = .ok (.aload_n 2, 1) := by decide +kernel
theorem dX3_isDone_21 : decode cX3_isDone 21 = .ok (.getfield 40, 3) := by decide +kernel
theorem dX3_isDone_24 : decode cX3_isDone 24 = .ok (.iconst 4, 1) := by decide +kernel
theorem dX3_isDone_25 : decode cX3_isDone 25 = .ok (.if_icmp .eq 13, 3) := by decide +kernel
theorem dX3_isDone_28 : decode cX3_isDone 28 = .ok (.aload_n 2, 1) := by decide +kernel
theorem dX3_isDone_29 : decode cX3_isDone 29 = .ok (.getfield 40, 3) := by decide +kernel
theorem dX3_isDone_32 : decode cX3_isDone 32 = .ok (.iconst 3, 1) := by decide +kernel
theorem dX3_isDone_33 : decode cX3_isDone 33 = .ok (.if_icmp .eq 5, 3) := by decide +kernel
theorem dX3_isDone_36 : decode cX3_isDone 36 = .ok (.iconst 0, 1) := by decide +kernel
theorem dX3_isDone_37 : decode cX3_isDone 37 = .ok (.ireturn, 1) := by decide +kernel
theorem dX3_isDone_38 : decode cX3_isDone 38 = .ok (.iinc 1 1, 3) := by decide +kernel
theorem dX3_isDone_41 : decode cX3_isDone 41 = .ok (.goto (-39), 3) := by decide +kernel
theorem dX3_isDone_44 : decode cX3_isDone 44 = .ok (.iconst 1, 1) := by decide +kernel
theorem dX3_isDone_45 : decode cX3_isDone 45 = .ok (.ireturn, 1) := by decide +kernel
theorem dX3_lossOf_0 : decode cX3_lossOf 0 = .ok (.lconst 0, 1) := by decide +kernel
theorem dX3_lossOf_1 : decode cX3_lossOf 1 = .ok (.lstore_n 2, 1) := by decide +kernel
theorem dX3_lossOf_2 : decode cX3_lossOf 2 = .ok (.iconst 0, 1) := by decide +kernel
theorem dX3_lossOf_3 : decode cX3_lossOf 3 = .ok (.istore 4, 2) := by decide +kernel
theorem dX3_lossOf_5 : decode cX3_lossOf 5 = .ok (.iload 4, 2) := by decide +kernel
theorem dX3_lossOf_7 : decode cX3_lossOf 7 = .ok (.aload_n 0, 1) := by decide +kernel
theorem dX3_lossOf_8 : decode cX3_lossOf 8 = .ok (.getfield 24, 3) := by decide +kernel
theorem dX3_lossOf_11 : decode cX3_lossOf 11 = .ok (.if_icmp .ge 39, 3) := by decide +kernel
theorem dX3_lossOf_14 : decode cX3_lossOf 14 = .ok (.aload_n 0, 1) := by decide +kernel
theorem dX3_lossOf_15 : decode cX3_lossOf 15 = .ok (.iload 4, 2) := by decide +kernel
theorem dX3_lossOf_17 : decode cX3_lossOf 17 = .ok (.invokevirtual 32, 3) := by decide +kernel
theorem dX3_lossOf_20 : decode cX3_lossOf 20 = .ok (.astore 5, 2) := by decide +kernel
theorem dX3_lossOf_22 : decode cX3_lossOf 22 = .ok (.aload 5, 2) := by decide +kernel
theorem dX3_lossOf_24 : decode cX3_lossOf 24 = .ok (.ifnull 20, 3) := by decide +kernel
theorem dX3_lossOf_27 : decode cX3_lossOf 27 = .ok (.aload 5, 2) := by decide +kernel
theorem dX3_lossOf_29 : decode cX3_lossOf 29 = .ok (.getfield 43, 3) := by decide +kernel
theorem dX3_lossOf_32 : decode cX3_lossOf 32 = .ok (.iload_n 1, 1) := by decide +kernel
theorem dX3_lossOf_33 : decode cX3_lossOf 33 = .ok (.if_icmp .ne 11, 3) := by decide +kernel
theorem dX3_lossOf_36 : decode cX3_lossOf 36 = .ok (.lload_n 2, 1) := by decide +kernel
theorem dX3_lossOf_37 : decode cX3_lossOf 37 = .ok (.aload 5, 2) := by decide +kernel
theorem dX3_lossOf_39 : decode cX3_lossOf 39 = .ok (.getfield 46, 3) := by decide +kernel
theorem dX3_lossOf_42 : decode cX3_lossOf 42 = .ok (.ladd, 1) := by decide +kernel
theorem dX3_lossOf_43 : decode cX3_lossOf 43 = .ok (.lstore_n 2, 1) := by decide +kernel
theorem dX3_lossOf_44 : decode cX3_lossOf 44 = .ok (.iinc 4 1, 3) := by decide +kernel
theorem dX3_lossOf_47 : decode cX3_lossOf 47 = .ok (.goto (-42), 3) := by decide +kernel
theorem dX3_lossOf_50 : decode cX3_lossOf 50 = .ok (.lload_n 2, 1) := by decide +kernel
theorem dX3_lossOf_51 : decode cX3_lossOf 51 = .ok (.lreturn, 1) := by decide +kernel
theorem dX4_init_0 : decode cX4_init 0 = .ok (.aload_n 0, 1) := by decide +kernel
theorem dX4_init_1 : decode cX4_init 1 = .ok (.invokespecial 3, 3) := by decide +kernel
theorem dX4_init_4 : decode cX4_init 4 = .ok (.aload_n 0, 1) := by decide +kernel
theorem dX4_init_5 : decode cX4_init 5 = .ok (.bipush 20, 2) := by decide +kernel
theorem dX4_init_7 : decode cX4_init 7 = .ok (.newarray .int, 2) := by decide +kernel
theorem dX4_init_9 : decode cX4_init 9 = .ok (.putfield 9, 3) := by decide +kernel
theorem dX4_init_12 : decode cX4_init 12 = .ok (.aload_n 0, 1) := by decide +kernel
theorem dX4_init_13 : decode cX4_init 13 = .ok (.bipush 20, 2) := by decide +kernel
theorem dX4_init_15 : decode cX4_init 15 = .ok (.newarray .int, 2) := by decide +kernel
theorem dX4_init_17 : decode cX4_init 17 = .ok (.putfield 15, 3) := by decide +kernel
theorem dX4_init_20 : decode cX4_init 20 = .ok (.return_, 1) := by decide +kernel
theorem dX4_put_0 : decode cX4_put 0 = .ok (.iconst 0, 1) := by decide +kernel
theorem dX4_put_1 : decode cX4_put 1 = .ok (.istore_n 3, 1) := by decide +kernel
theorem dX4_put_2 : decode cX4_put 2 = .ok (.iload_n 3, 1) := by decide +kernel
theorem dX4_put_3 : decode cX4_put 3 = .ok (.aload_n 0, 1) := by decide +kernel
theorem dX4_put_4 : decode cX4_put 4 = .ok (.getfield 18, 3) := by decide +kernel
theorem dX4_put_7 : decode cX4_put 7 = .ok (.if_icmp .ge 37, 3) := by decide +kernel
theorem dX4_put_10 : decode cX4_put 10 = .ok (.iload_n 3, 1) := by decide +kernel
theorem dX4_put_11 : decode cX4_put 11 = .ok (.bipush 20, 2) := by decide +kernel
theorem dX4_put_13 : decode cX4_put 13 = .ok (.if_icmp .ge 31, 3) := by decide +kernel
theorem dX4_put_16 : decode cX4_put 16 = .ok (.aload_n 0, 1) := by decide +kernel
theorem dX4_put_17 : decode cX4_put 17 = .ok (.getfield 9, 3) := by decide +kernel
theorem dX4_put_20 : decode cX4_put 20 = .ok (.iload_n 3, 1) := by decide +kernel
theorem dX4_put_21 : decode cX4_put 21 = .ok (.iaload, 1) := by decide +kernel
theorem dX4_put_22 : decode cX4_put 22 = .ok (.iload_n 1, 1) := by decide +kernel
theorem dX4_put_23 : decode cX4_put 23 = .ok (.if_icmp .ne 15, 3) := by decide +kernel
theorem dX4_put_26 : decode cX4_put 26 = .ok (.aload_n 0, 1) := by decide +kernel
theorem dX4_put_27 : decode cX4_put 27 = .ok (.getfield 15, 3) := by decide +kernel
theorem dX4_put_30 : decode cX4_put 30 = .ok (.iload_n 3, 1) := by decide +kernel
theorem dX4_put_31 : decode cX4_put 31 = .ok (.iload_n 2, 1) := by decide +kernel
theorem dX4_put_32 : decode cX4_put 32 = .ok (.iastore, 1) := by decide +kernel
theorem dX4_put_33 : decode cX4_put 33 = .ok (.aload_n 0, 1) := by decide +kernel
theorem dX4_put_34 : decode cX4_put 34 = .ok (.getfield 18, 3) := by decide +kernel
theorem dX4_put_37 : decode cX4_put 37 = .ok (.ireturn, 1) := by decide +kernel
theorem dX4_put_38 : decode cX4_put 38 = .ok (.iinc 3 1, 3) := by decide +kernel
theorem dX4_put_41 : decode cX4_put 41 = .ok (.goto (-39), 3) := by decide +kernel
theorem dX4_put_44 : decode cX4_put 44 = .ok (.aload_n 0, 1) := by decide +kernel
theorem dX4_put_45 : decode cX4_put 45 = .ok (.getfield 18, 3) := by decide +kernel
theorem dX4_put_48 : decode cX4_put 48 = .ok (.bipush 20, 2) := by decide +kernel
theorem dX4_put_50 : decode cX4_put 50 = .ok (.if_icmp .lt 6, 3) := by decide +kernel
theorem dX4_put_53 : decode cX4_put 53 = .ok (.bipush (-104), 2) := by decide +kernel
theorem dX4_put_55 : decode cX4_put 55 = .ok (.ireturn, 1) := by decide +kernel
theorem dX4_put_56 : decode cX4_put 56 = .ok (.aload_n 0, 1) := by decide +kernel
theorem dX4_put_57 : decode cX4_put 57 = .ok (.getfield 9, 3) := by decide +kernel
theorem dX4_put_60 : decode cX4_put 60 = .ok (.aload_n 0, 1) := by decide +kernel
theorem dX4_put_61 : decode cX4_put 61 = .ok (.getfield 18, 3) := by decide +kernel
theorem dX4_put_64 : decode cX4_put 64 = .ok (.iload_n 1, 1) := by decide +kernel
theorem dX4_put_65 : decode cX4_put 65 = .ok (.iastore, 1) := by decide +kernel
theorem dX4_put_66 : decode cX4_put 66 = .ok (.aload_n 0, 1) := by decide +kernel
theorem dX4_put_67 : decode cX4_put 67 = .ok (.getfield 15, 3) := by decide +kernel
theorem dX4_put_70 : decode cX4_put 70 = .ok (.aload_n 0, 1) := by decide +kernel
theorem dX4_put_71 : decode cX4_put 71 = .ok (.getfield 18, 3) := by decide +kernel
theorem dX4_put_74 : decode cX4_put 74 = .ok (.iload_n 2, 1) := by decide +kernel
theorem dX4_put_75 : decode cX4_put 75 = .ok (.iastore, 1) := by decide +kernel
theorem dX4_put_76 : decode cX4_put 76 = .ok (.aload_n 0, 1) := by decide +kernel
theorem dX4_put_77 : decode cX4_put 77 = .ok (.dup, 1) := by decide +kernel
theorem dX4_put_78 : decode cX4_put 78 = .ok (.getfield 18, 3) := by decide +kernel
theorem dX4_put_81 : decode cX4_put 81 = .ok (.iconst 1, 1) := by decide +kernel
theorem dX4_put_82 : decode cX4_put 82 = .ok (.iadd, 1) := by decide +kernel
theorem dX4_put_83 : decode cX4_put 83 = .ok (.putfield 18, 3) := by decide +kernel
theorem dX4_put_86 : decode cX4_put 86 = .ok (.aload_n 0, 1) := by decide +kernel
theorem dX4_put_87 : decode cX4_put 87 = .ok (.getfield 18, 3) := by decide +kernel
theorem dX4_put_90 : decode cX4_put 90 = .ok (.ireturn, 1) := by decide +kernel
theorem dX4_on_0 : decode cX4_on 0 = .ok (.iconst (-1), 1) := by decide +kernel
theorem dX4_on_1 : decode cX4_on 1 = .ok (.istore_n 2, 1) := by decide +kernel
theorem dX4_on_2 : decode cX4_on 2 = .ok (.iconst 0, 1) := by decide +kernel
theorem dX4_on_3 : decode cX4_on 3 = .ok (.istore_n 3, 1) := by decide +kernel
theorem dX4_on_4 : decode cX4_on 4 = .ok (.iconst 0, 1) := by decide +kernel
theorem dX4_on_5 : decode cX4_on 5 = .ok (.istore 4, 2) := by decide +kernel
theorem dX4_on_7 : decode cX4_on 7 = .ok (.iload 4, 2) := by decide +kernel
theorem dX4_on_9 : decode cX4_on 9 = .ok (.aload_n 0, 1) := by decide +kernel
theorem dX4_on_10 : decode cX4_on 10 = .ok (.getfield 18, 3) := by decide +kernel
theorem dX4_on_13 : decode cX4_on 13 = .ok (.if_icmp .ge 54, 3) := by decide +kernel
theorem dX4_on_16 : decode cX4_on 16 = .ok (.iload 4, 2) := by decide +kernel
theorem dX4_on_18 : decode cX4_on 18 = .ok (.bipush 20, 2) := by decide +kernel
theorem dX4_on_20 : decode cX4_on 20 = .ok (.if_icmp .ge 47, 3) := by decide +kernel
theorem dX4_on_23 : decode cX4_on 23 = .ok (.aload_n 0, 1) := by decide +kernel
theorem dX4_on_24 : decode cX4_on 24 = .ok (.getfield 9, 3) := by decide +kernel
theorem dX4_on_27 : decode cX4_on 27 = .ok (.iload 4, 2) := by decide +kernel
theorem dX4_on_29 : decode cX4_on 29 = .ok (.iaload, 1) := by decide +kernel
theorem dX4_on_30 : decode cX4_on 30 = .ok (.iload_n 1, 1) := by decide +kernel
theorem dX4_on_31 : decode cX4_on 31 = .ok (.if_icmp .gt 30, 3) := by decide +kernel
theorem dX4_on_34 : decode cX4_on 34 = .ok (.aload_n 0, 1) := by decide +kernel
theorem dX4_on_35 : decode cX4_on 35 = .ok (.getfield 9, 3) := by decide +kernel
theorem dX4_on_38 : decode cX4_on 38 = .ok (.iload 4, 2) := by decide +kernel
theorem dX4_on_40 : decode cX4_on 40 = .ok (.iaload, 1) := by decide +kernel
theorem dX4_on_41 : decode cX4_on 41 = .ok (.iload_n 2, 1) := by decide +kernel
theorem dX4_on_42 : decode cX4_on 42 = .ok (.if_icmp .le 19, 3) := by decide +kernel
theorem dX4_on_45 : decode cX4_on 45 = .ok (.aload_n 0, 1) := by decide +kernel
theorem dX4_on_46 : decode cX4_on 46 = .ok (.getfield 9, 3) := by decide +kernel
theorem dX4_on_49 : decode cX4_on 49 = .ok (.iload 4, 2) := by decide +kernel
theorem dX4_on_51 : decode cX4_on 51 = .ok (.iaload, 1) := by decide +kernel
theorem dX4_on_52 : decode cX4_on 52 = .ok (.istore_n 2, 1) := by decide +kernel
theorem dX4_on_53 : decode cX4_on 53 = .ok (.aload_n 0, 1) := by decide +kernel
theorem dX4_on_54 : decode cX4_on 54 = .ok (.getfield 15, 3) := by decide +kernel
theorem dX4_on_57 : decode cX4_on 57 = .ok (.iload 4, 2) := by decide +kernel
theorem dX4_on_59 : decode cX4_on 59 = .ok (.iaload, 1) := by decide +kernel
theorem dX4_on_60 : decode cX4_on 60 = .ok (.istore_n 3, 1) := by decide +kernel
theorem dX4_on_61 : decode cX4_on 61 = .ok (.iinc 4 1, 3) := by decide +kernel
theorem dX4_on_64 : decode cX4_on 64 = .ok (.goto (-57), 3) := by decide +kernel
theorem dX4_on_67 : decode cX4_on 67 = .ok (.iload_n 3, 1) := by decide +kernel
theorem dX4_on_68 : decode cX4_on 68 = .ok (.ireturn, 1) := by decide +kernel
theorem dX5_init_0 : decode cX5_init 0 = .ok (.aload_n 0, 1) := by decide +kernel
theorem dX5_init_1 : decode cX5_init 1 = .ok (.invokespecial 3, 3) := by decide +kernel
theorem dX5_init_4 : decode cX5_init 4 = .ok (.aload_n 0, 1) := by decide +kernel
theorem dX5_init_5 : decode cX5_init 5 = .ok (.sipush 256, 3) := by decide +kernel
theorem dX5_init_8 : decode cX5_init 8 = .ok (.newarray .int, 2) := by decide +kernel
theorem dX5_init_10 : decode cX5_init 10 = .ok (.putfield 9, 3) := by decide +kernel
theorem dX5_init_13 : decode cX5_init 13 = .ok (.aload_n 0, 1) := by decide +kernel
theorem dX5_init_14 : decode cX5_init 14 = .ok (.sipush 256, 3) := by decide +kernel
theorem dX5_init_17 : decode cX5_init 17 = .ok (.newarray .int, 2) := by decide +kernel
theorem dX5_init_19 : decode cX5_init 19 = .ok (.putfield 15, 3) := by decide +kernel
theorem dX5_init_22 : decode cX5_init 22 = .ok (.aload_n 0, 1) := by decide +kernel
theorem dX5_init_23 : decode cX5_init 23 = .ok (.sipush 256, 3) := by decide +kernel
theorem dX5_init_26 : decode cX5_init 26 = .ok (.newarray .int, 2) := by decide +kernel
theorem dX5_init_28 : decode cX5_init 28 = .ok (.putfield 18, 3) := by decide +kernel
theorem dX5_init_31 : decode cX5_init 31 = .ok (.aload_n 0, 1) := by decide +kernel
theorem dX5_init_32 : decode cX5_init 32 = .ok (.sipush 256, 3) := by decide +kernel
theorem dX5_init_35 : decode cX5_init 35 = .ok (.newarray .boolean, 2) := by decide +kernel
theorem dX5_init_37 : decode cX5_init 37 = .ok (.putfield 21, 3) := by decide +kernel
theorem dX5_init_40 : decode cX5_init 40 = .ok (.aload_n 0, 1) := by decide +kernel
theorem dX5_init_41 : decode cX5_init 41 = .ok (.sipush 256, 3) := by decide +kernel
theorem dX5_init_44 : decode cX5_init 44 = .ok (.newarray .int, 2) := by decide +kernel
theorem dX5_init_46 : decode cX5_init 46 = .ok (.putfield 25, 3) := by decide +kernel
theorem dX5_init_49 : decode cX5_init 49 = .ok (.return_, 1) := by decide +kernel
theorem dX5_find_0 : decode cX5_find 0 = .ok (.aload_n 0, 1) := by decide +kernel
theorem dX5_find_1 : decode cX5_find 1 = .ok (.iconst 0, 1) := by decide +kernel
theorem dX5_find_2 : decode cX5_find 2 = .ok (.putfield 28, 3) := by decide +kernel
theorem dX5_find_5 : decode cX5_find 5 = .ok (.iconst 0, 1) := by decide +kernel
theorem dX5_find_6 : decode cX5_find 6 = .ok (.istore 4, 2) := by decide +kernel
theorem dX5_find_8 : decode cX5_find 8 = .ok (.iload 4, 2) := by decide +kernel
theorem dX5_find_10 : decode cX5_find 10 = .ok (.sipush 256, 3) := by decide +kernel
theorem dX5_find_13 : decode cX5_find 13 = .ok (.if_icmp .ge 17, 3) := by decide +kernel
theorem dX5_find_16 : decode cX5_find 16 = .ok (.aload_n 0, 1) := by decide +kernel
theorem dX5_find_17 : decode cX5_find 17 = .ok (.getfield 9, 3) := by decide +kernel
theorem dX5_find_20 : decode cX5_find 20 = .ok (.iload 4, 2) := by decide +kernel
theorem dX5_find_22 : decode cX5_find 22 = .ok (.iconst (-1), 1) := by decide +kernel
theorem dX5_find_23 : decode cX5_find 23 = .ok (.iastore, 1) := by decide +kernel
theorem dX5_find_24 : decode cX5_find 24 = .ok (.iinc 4 1, 3) := by decide +kernel
theorem dX5_find_27 : decode cX5_find 27 = .ok (.goto (-19), 3) := by decide +kernel
theorem dX5_find_30 : decode cX5_find 30 = .ok (.iconst 0, 1) := by decide +kernel
theorem dX5_find_31 : decode cX5_find 31 = .ok (.istore 4, 2) := by decide +kernel
theorem dX5_find_33 : decode cX5_find 33 = .ok (.iload 4, 2) := by decide +kernel
theorem dX5_find_35 : decode cX5_find 35 = .ok (.sipush 256, 3) := by decide +kernel
theorem dX5_find_38 : decode cX5_find 38 = .ok (.if_icmp .ge 48, 3) := by decide +kernel
theorem dX5_find_41 : decode cX5_find 41 = .ok (.aload_n 0, 1) := by decide +kernel
theorem dX5_find_42 : decode cX5_find 42 = .ok (.getfield 28, 3) := by decide +kernel
theorem dX5_find_45 : decode cX5_find 45 = .ok (.sipush 256, 3) := by decide +kernel
theorem dX5_find_48 : decode cX5_find 48 = .ok (.if_icmp .ge 32, 3) := by decide +kernel
theorem dX5_find_51 : decode cX5_find 51 = .ok (.aload_n 0, 1) := by decide +kernel
theorem dX5_find_52 : decode cX5_find 52 = .ok (.getfield 9, 3) := by decide +kernel
theorem dX5_find_55 : decode cX5_find 55 = .ok (.iload 4, 2) := by decide +kernel
theorem dX5_find_57 : decode cX5_find 57 = .ok (.iaload, 1) := by decide +kernel
theorem dX5_find_58 : decode cX5_find 58 = .ok (.iconst (-1), 1) := by decide +kernel
theorem dX5_find_59 : decode cX5_find 59 = .ok (.if_icmp .ne 21, 3) := by decide +kernel
theorem dX5_find_62 : decode cX5_find 62 = .ok (.aload_n 1, 1) := by decide +kernel
theorem dX5_find_63 : decode cX5_find 63 = .ok (.iload 4, 2) := by decide +kernel
theorem dX5_find_65 : decode cX5_find 65 = .ok (.iload_n 2, 1) := by decide +kernel
theorem dX5_find_66 : decode cX5_find 66 = .ok (.invokevirtual 32, 3) := by decide +kernel
theorem dX5_find_69 : decode cX5_find 69 = .ok (.ifCond .eq 11, 3) := by decide +kernel
theorem dX5_find_72 : decode cX5_find 72 = .ok (.aload_n 0, 1) := by decide +kernel
theorem dX5_find_73 : decode cX5_find 73 = .ok (.aload_n 1, 1) := by decide +kernel
theorem dX5_find_74 : decode cX5_find 74 = .ok (.iload_n 2, 1) := by decide +kernel
theorem dX5_find_75 : decode cX5_find 75 = .ok (.iload 4, 2) := by decide +kernel
theorem dX5_find_77 : decode cX5_find 77 = .ok (.invokevirtual 38, 3) := by decide +kernel
theorem dX5_find_80 : decode cX5_find 80 = .ok (.iinc 4 1, 3) := by decide +kernel
theorem dX5_find_83 : decode cX5_find 83 = .ok (.goto (-50), 3) := by decide +kernel
theorem dX5_find_86 : decode cX5_find 86 = .ok (.aload_n 0, 1) := by decide +kernel
theorem dX5_find_87 : decode cX5_find 87 = .ok (.aload_n 0, 1) := by decide +kernel
theorem dX5_find_88 : decode cX5_find 88 = .ok (.iload_n 3, 1) := by decide +kernel
theorem dX5_find_89 : decode cX5_find 89 = .ok (.invokevirtual 42, 3) := by decide +kernel
theorem dX5_find_92 : decode cX5_find 92 = .ok (.putfield 46, 3) := by decide +kernel
theorem dX5_find_95 : decode cX5_find 95 = .ok (.return_, 1) := by decide +kernel
theorem dX5_spread_0 : decode cX5_spread 0 = .ok (.aload_n 0, 1) := by decide +kernel
theorem dX5_spread_1 : decode cX5_spread 1 = .ok (.getfield 28, 3) := by decide +kernel
theorem dX5_spread_4 : decode cX5_spread 4 = .ok (.istore 4, 2) := by decide +kernel
theorem dX5_spread_6 : decode cX5_spread 6 = .ok (.aload_n 0, 1) := by decide +kernel
theorem dX5_spread_7 : decode cX5_spread 7 = .ok (.dup, 1) := by decide +kernel
theorem dX5_spread_8 : decode cX5_spread 8 = .ok (.getfield 28, 3) := by decide +kernel
theorem dX5_spread_11 : decode cX5_spread 11 = .ok (.iconst 1, 1) := by decide +kernel
theorem dX5_spread_12 : decode cX5_spread 12 = .ok (.iadd, 1) := by decide +kernel
theorem dX5_spread_13 : decode cX5_spread 13 = .ok (.putfield 28, 3) := by decide +kernel
theorem dX5_spread_16 : decode cX5_spread 16 = .ok (.aload_n 0, 1) := by decide +kernel
theorem dX5_spread_17 : decode cX5_spread 17 = .ok (.getfield 18, 3) := by decide +kernel
theorem dX5_spread_20 : decode cX5_spread 20 = .ok (.iload 4, 2) := by decide +kernel
theorem dX5_spread_22 : decode cX5_spread 22 = .ok (.iload_n 3, 1) := by decide +kernel
theorem dX5_spread_23 : decode cX5_spread 23 = .ok (.iastore, 1) := by decide +kernel
theorem dX5_spread_24 : decode cX5_spread 24 = .ok (.aload_n 0, 1) := by decide +kernel
theorem dX5_spread_25 : decode cX5_spread 25 = .ok (.getfield 21, 3) := by decide +kernel
theorem dX5_spread_28 : decode cX5_spread 28 = .ok (.iload 4, 2) := by decide +kernel
theorem dX5_spread_30 : decode cX5_spread 30 = .ok (.iconst 0, 1) := by decide +kernel
theorem dX5_spread_31 : decode cX5_spread 31 = .ok (.bastore, 1) := by decide +kernel
theorem dX5_spread_32 : decode cX5_spread 32 = .ok (.aload_n 0, 1) := by decide +kernel
theorem dX5_spread_33 : decode cX5_spread 33 = .ok (.getfield 9, 3) := by decide +kernel
theorem dX5_spread_36 : decode cX5_spread 36 = .ok (.iload_n 3, 1) := by decide +kernel
theorem dX5_spread_37 : decode cX5_spread 37 = .ok (.iload 4, 2) := by decide +kernel
theorem dX5_spread_39 : decode cX5_spread 39 = .ok (.iastore, 1) := by decide +kernel
theorem dX5_spread_40 : decode cX5_spread 40 = .ok (.aload_n 0, 1) := by decide +kernel
theorem dX5_spread_41 : decode cX5_spread 41 = .ok (.getfield 25, 3) := by decide +kernel
theorem dX5_spread_44 : decode cX5_spread 44 = .ok (.iconst 0, 1) := by decide +kernel
theorem dX5_spread_45 : decode cX5_spread 45 = .ok (.iload_n 3, 1) := by decide +kernel
theorem dX5_spread_46 : decode cX5_spread 46 = .ok (.iastore, 1) := by decide +kernel
theorem dX5_spread_47 : decode cX5_spread 47 = .ok (.iconst 1, 1) := by decide +kernel
theorem dX5_spread_48 : decode cX5_spread 48 = .ok (.istore 5, 2) := by decide +kernel
theorem dX5_spread_50 : decode cX5_spread 50 = .ok (.iconst 0, 1) := by decide +kernel
theorem dX5_spread_51 : decode cX5_spread 51 = .ok (.istore 6, 2) := by decide +kernel
theorem dX5_spread_53 : decode cX5_spread 53 = .ok (.iload 6, 2) := by decide +kernel
theorem dX5_spread_55 : decode cX5_spread 55 = .ok (.iload 5, 2) := by decide +kernel
theorem dX5_spread_57 : decode cX5_spread 57 = .ok (.if_icmp .ge 129, 3) := by decide +kernel
theorem dX5_spread_60 : decode cX5_spread 60 = .ok (.iload 6, 2) := by decide +kernel
theorem dX5_spread_62 : decode cX5_spread 62 = .ok (.sipush 256, 3) := by decide +kernel
theorem dX5_spread_65 : decode cX5_spread 65 = .ok (.if_icmp .ge 121, 3) := by decide +kernel
theorem dX5_spread_68 : decode cX5_spread 68 = .ok (.iconst 0, 1) := by decide +kernel
theorem dX5_spread_69 : decode cX5_spread 69 = .ok (.istore 7, 2) := by decide +kernel
theorem dX5_spread_71 : decode cX5_spread 71 = .ok (.iload 7, 2) := by decide +kernel
theorem dX5_spread_73 : decode cX5_spread 73 = .ok (.iconst 4, 1) := by decide +kernel
theorem dX5_spread_74 : decode cX5_spread 74 = .ok (.if_icmp .ge 106, 3) := by decide +kernel
theorem dX5_spread_77 : decode cX5_spread 77 = .ok (.aload_n 1, 1) := by decide +kernel
theorem dX5_spread_78 : decode cX5_spread 78 = .ok (.aload_n 0, 1) := by decide +kernel
theorem dX5_spread_79 : decode cX5_spread 79 = .ok (.getfield 25, 3) := by decide +kernel
theorem dX5_spread_82 : decode cX5_spread 82 = .ok (.iload 6, 2) := by decide +kernel
theorem dX5_spread_84 : decode cX5_spread 84 = .ok (.iaload, 1) := by decide +kernel
theorem dX5_spread_85 : decode cX5_spread 85 = .ok (.iload 7, 2) := by decide +kernel
theorem dX5_spread_87 : decode cX5_spread 87 = .ok (.invokevirtual 49, 3) := by decide +kernel
theorem dX5_spread_90 : decode cX5_spread 90 = .ok (.istore 8, 2) := by decide +kernel
theorem dX5_spread_92 : decode cX5_spread 92 = .ok (.iload 8, 2) := by decide +kernel
theorem dX5_spread_94 : decode cX5_spread 94 = .ok (.iconst (-1), 1) := by decide +kernel
theorem dX5_spread_95 : decode cX5_spread 95 = .ok (.if_icmp .eq 23, 3) := by decide +kernel
theorem dX5_spread_98 : decode cX5_spread 98 = .ok (.aload_n 1, 1) := by decide +kernel
theorem dX5_spread_99 : decode cX5_spread 99 = .ok (.iload 8, 2) := by decide +kernel
theorem dX5_spread_101 : decode cX5_spread 101 = .ok (.invokevirtual 53, 3) := by decide +kernel
theorem dX5_spread_104 : decode cX5_spread 104 = .ok (.ifCond .eq 14, 3) := by decide +kernel
theorem dX5_spread_107 : decode cX5_spread 107 = .ok (.aload_n 0, 1) := by decide +kernel
theorem dX5_spread_108 : decode cX5_spread 108 = .ok (.getfield 21, 3) := by decide +kernel
theorem dX5_spread_111 : decode cX5_spread 111 = .ok (.iload 4, 2) := by decide +kernel
theorem dX5_spread_113 : decode cX5_spread 113 = .ok (.iconst 1, 1) := by decide +kernel
theorem dX5_spread_114 : decode cX5_spread 114 = .ok (.bastore, 1) := by decide +kernel
theorem dX5_spread_115 : decode cX5_spread 115 = .ok (.goto 59, 3) := by decide +kernel
theorem dX5_spread_118 : decode cX5_spread 118 = .ok (.iload 8, 2) := by decide +kernel
theorem dX5_spread_120 : decode cX5_spread 120 = .ok (.iconst (-1), 1) := by decide +kernel
theorem dX5_spread_121 : decode cX5_spread 121 = .ok (.if_icmp .eq 53, 3) := by decide +kernel
theorem dX5_spread_124 : decode cX5_spread 124 = .ok (.aload_n 0, 1) := by decide +kernel
theorem dX5_spread_125 : decode cX5_spread 125 = .ok (.getfield 9, 3) := by decide +kernel
theorem dX5_spread_128 : decode cX5_spread 128 = .ok (.iload 8, 2) := by decide +kernel
theorem dX5_spread_130 : decode cX5_spread 130 = .ok (.iaload, 1) := by decide +kernel
theorem dX5_spread_131 : decode cX5_spread 131 = .ok (.iconst (-1), 1) := by decide +kernel
theorem dX5_spread_132 : decode cX5_spread 132 = .ok (.if_icmp .ne 42, 3) := by decide +kernel
theorem dX5_spread_135 : decode cX5_spread 135 = .ok (.aload_n 1, 1) := by decide +kernel
theorem dX5_spread_136 : decode cX5_spread 136 = .ok (.iload 8, 2) := by decide +kernel
theorem dX5_spread_138 : decode cX5_spread 138 = .ok (.iload_n 2, 1) := by decide +kernel
theorem dX5_spread_139 : decode cX5_spread 139 = .ok (.invokevirtual 32, 3) := by decide +kernel
theorem dX5_spread_142 : decode cX5_spread 142 = .ok (.ifCond .eq 32, 3) := by decide +kernel
theorem dX5_spread_145 : decode cX5_spread 145 = .ok (.iload 5, 2) := by decide +kernel
theorem dX5_spread_147 : decode cX5_spread 147 = .ok (.sipush 256, 3) := by decide +kernel
theorem dX5_spread_150 : decode cX5_spread 150 = .ok (.if_icmp .ge 24, 3) := by decide +kernel
theorem dX5_spread_153 : decode cX5_spread 153 = .ok (.aload_n 0, 1) := by decide +kernel
theorem dX5_spread_154 : decode cX5_spread 154 = .ok (.getfield 9, 3) := by decide +kernel
theorem dX5_spread_157 : decode cX5_spread 157 = .ok (.iload 8, 2) := by decide +kernel
theorem dX5_spread_159 : decode cX5_spread 159 = .ok (.iload 4, 2) := by decide +kernel
theorem dX5_spread_161 : decode cX5_spread 161 = .ok (.iastore, 1) := by decide +kernel
theorem dX5_spread_162 : decode cX5_spread 162 = .ok (.aload_n 0, 1) := by decide +kernel
theorem dX5_spread_163 : decode cX5_spread 163 = .ok (.getfield 25, 3) := by decide +kernel
theorem dX5_spread_166 : decode cX5_spread 166 = .ok (.iload 5, 2) := by decide +kernel
theorem dX5_spread_168 : decode cX5_spread 168 = .ok (.iload 8, 2) := by decide +kernel
theorem dX5_spread_170 : decode cX5_spread 170 = .ok (.iastore, 1) := by decide +kernel
theorem dX5_spread_171 : decode cX5_spread 171 = .ok (.iinc 5 1, 3) := by decide +kernel
theorem dX5_spread_174 : decode cX5_spread 174 = .ok (.iinc 7 1, 3) := by decide +kernel
theorem dX5_spread_177 : decode cX5_spread 177 = .ok (.goto (-106), 3) := by decide +kernel
theorem dX5_spread_180 : decode cX5_spread 180 = .ok (.iinc 6 1, 3) := by decide +kernel
theorem dX5_spread_183 : decode cX5_spread 183 = .ok (.goto (-130), 3) := by decide +kernel
theorem dX5_spread_186 : decode cX5_spread 186 = .ok (.aload_n 0, 1) := by decide +kernel
theorem dX5_spread_187 : decode cX5_spread 187 = .ok (.getfield 15, 3) := by decide +kernel
theorem dX5_spread_190 : decode cX5_spread 190 = .ok (.iload 4, 2) := by decide +kernel
theorem dX5_spread_192 : decode cX5_spread 192 = .ok (.iload 5, 2) := by decide +kernel
theorem dX5_spread_194 : decode cX5_spread 194 = .ok (.iastore, 1) := by decide +kernel
theorem dX5_spread_195 : decode cX5_spread 195 = .ok (.return_, 1) := by decide +kernel
theorem dX5_chosenMain_0 : decode cX5_chosenMain 0 = .ok (.iload_n 1, 1) := by decide +kernel
theorem dX5_chosenMain_1 : decode cX5_chosenMain 1 = .ok (.ifCond .lt 27, 3) := by decide +kernel
theorem dX5_chosenMain_4 : decode cX5_chosenMain 4 = .ok (.iload_n 1, 1) := by decide +kernel
theorem dX5_chosenMain_5 : decode cX5_chosenMain 5 = .ok (.sipush 256, 3) := by decide +kernel
theorem dX5_chosenMain_8 : decode cX5_chosenMain 8 = .ok (.if_icmp .ge 20, 3) := by decide +kernel
theorem dX5_chosenMain_11 : decode cX5_chosenMain 11 = .ok (.aload_n 0, 1) := by decide +kernel
theorem dX5_chosenMain_12 : decode cX5_chosenMain 12 = .ok (.getfield 9, 3) := by decide +kernel
theorem dX5_chosenMain_15 : decode cX5_chosenMain 15 = .ok (.iload_n 1, 1) := by decide +kernel
theorem dX5_chosenMain_16 : decode cX5_chosenMain 16 = .ok (.iaload, 1) := by decide +kernel
theorem dX5_chosenMain_17 : decode cX5_chosenMain 17 = .ok (.iconst (-1), 1) := by decide +kernel
theorem dX5_chosenMain_18 : decode cX5_chosenMain 18 = .ok (.if_icmp .eq 10, 3) := by decide +kernel
theorem dX5_chosenMain_21 : decode cX5_chosenMain 21 = .ok (.aload_n 0, 1) := by decide +kernel
theorem dX5_chosenMain_22 : decode cX5_chosenMain 22 = .ok (.getfield 9, 3) := by decide +kernel
theorem dX5_chosenMain_25 : decode cX5_chosenMain 25 = .ok (.iload_n 1, 1) := by decide +kernel
theorem dX5_chosenMain_26 : decode cX5_chosenMain 26 = .ok (.iaload, 1) := by decide +kernel
theorem dX5_chosenMain_27 : decode cX5_chosenMain 27 = .ok (.ireturn, 1) := by decide +kernel
theorem dX5_chosenMain_28 : decode cX5_chosenMain 28 = .ok (.iconst (-1), 1) := by decide +kernel
theorem dX5_chosenMain_29 : decode cX5_chosenMain 29 = .ok (.istore_n 2, 1) := by decide +kernel
theorem dX5_chosenMain_30 : decode cX5_chosenMain 30 = .ok (.iconst 0, 1) := by decide +kernel
theorem dX5_chosenMain_31 : decode cX5_chosenMain 31 = .ok (.istore_n 3, 1) := by decide +kernel
theorem dX5_chosenMain_32 : decode cX5_chosenMain 32 = .ok (.iload_n 3, 1) := by decide +kernel
theorem dX5_chosenMain_33 : decode cX5_chosenMain 33 = .ok (.aload_n 0, 1) := by decide +kernel
theorem dX5_chosenMain_34 : decode cX5_chosenMain 34 = .ok (.getfield 28, 3) := by decide +kernel
theorem dX5_chosenMain_37 : decode cX5_chosenMain 37 = .ok (.if_icmp .ge 31, 3) := by decide +kernel
theorem dX5_chosenMain_40 : decode cX5_chosenMain 40 = .ok (.iload_n 2, 1) := by decide +kernel
theorem dX5_chosenMain_41 : decode cX5_chosenMain 41 = .ok (.iconst (-1), 1) := by decide +kernel
theorem dX5_chosenMain_42 : decode cX5_chosenMain 42 = .ok (.if_icmp .eq 18, 3) := by decide +kernel
theorem dX5_chosenMain_45 : decode cX5_chosenMain 45 = .ok (.aload_n 0, 1) := by decide +kernel
theorem dX5_chosenMain_46 : decode cX5_chosenMain 46 = .ok (.getfield 15, 3) := by decide +kernel
theorem dX5_chosenMain_49 : decode cX5_chosenMain 49 = .ok (.iload_n 3, 1) := by decide +kernel
theorem dX5_chosenMain_50 : decode cX5_chosenMain 50 = .ok (.iaload, 1) := by decide +kernel
theorem dX5_chosenMain_51 : decode cX5_chosenMain 51 = .ok (.aload_n 0, 1) := by decide +kernel
theorem dX5_chosenMain_52 : decode cX5_chosenMain 52 = .ok (.getfield 15, 3) := by decide +kernel
theorem dX5_chosenMain_55 : decode cX5_chosenMain 55 = .ok (.iload_n 2, 1) := by decide +kernel
theorem dX5_chosenMain_56 : decode cX5_chosenMain 56 = .ok (.iaload, 1) := by decide +kernel
theorem dX5_chosenMain_57 : decode cX5_chosenMain 57 = .ok (.if_icmp .le 5, 3) := by decide +kernel
theorem dX5_chosenMain_60 : decode cX5_chosenMain 60 = .ok (.iload_n 3, 1) := by decide +kernel
theorem dX5_chosenMain_61 : decode cX5_chosenMain 61 = .ok (.istore_n 2, 1) := by decide +kernel
theorem dX5_chosenMain_62 : decode cX5_chosenMain 62 = .ok (.iinc 3 1, 3) := by decide +kernel
theorem dX5_chosenMain_65 : decode cX5_chosenMain 65 = .ok (.goto (-33), 3) := by decide +kernel
theorem dX5_chosenMain_68 : decode cX5_chosenMain 68 = .ok (.iload_n 2, 1) := by decide +kernel
theorem dX5_chosenMain_69 : decode cX5_chosenMain 69 = .ok (.ireturn, 1) := by decide +kernel
theorem dX5_hasWay_0 : decode cX5_hasWay 0 = .ok (.iload_n 1, 1) := by decide +kernel
theorem dX5_hasWay_1 : decode cX5_hasWay 1 = .ok (.ifCond .lt 24, 3) := by decide +kernel
theorem dX5_hasWay_4 : decode cX5_hasWay 4 = .ok (.iload_n 1, 1) := by decide +kernel
theorem dX5_hasWay_5 : decode cX5_hasWay 5 = .ok (.aload_n 0, 1) := by decide +kernel
theorem dX5_hasWay_6 : decode cX5_hasWay 6 = .ok (.getfield 28, 3) := by decide +kernel
theorem dX5_hasWay_9 : decode cX5_hasWay 9 = .ok (.if_icmp .ge 16, 3) := by decide +kernel
theorem dX5_hasWay_12 : decode cX5_hasWay 12 = .ok (.aload_n 0, 1) := by decide +kernel
theorem dX5_hasWay_13 : decode cX5_hasWay 13 = .ok (.getfield 21, 3) := by decide +kernel
theorem dX5_hasWay_16 : decode cX5_hasWay 16 = .ok (.iload_n 1, 1) := by decide +kernel
theorem dX5_hasWay_17 : decode cX5_hasWay 17 = .ok (.baload, 1) := by decide +kernel
theorem dX5_hasWay_18 : decode cX5_hasWay 18 = .ok (.ifCond .eq 7, 3) := by decide +kernel
theorem dX5_hasWay_21 : decode cX5_hasWay 21 = .ok (.iconst 1, 1) := by decide +kernel
theorem dX5_hasWay_22 : decode cX5_hasWay 22 = .ok (.goto 4, 3) := by decide +kernel
theorem dX5_hasWay_25 : decode cX5_hasWay 25 = .ok (.iconst 0, 1) := by decide +kernel
theorem dX5_hasWay_26 : decode cX5_hasWay 26 = .ok (.ireturn, 1) := by decide +kernel
theorem dX5_worth_0 : decode cX5_worth 0 = .ok (.iload_n 1, 1) := by decide +kernel
theorem dX5_worth_1 : decode cX5_worth 1 = .ok (.iconst (-1), 1) := by decide +kernel
theorem dX5_worth_2 : decode cX5_worth 2 = .ok (.if_icmp .ne 5, 3) := by decide +kernel
theorem dX5_worth_5 : decode cX5_worth 5 = .ok (.lconst 0, 1) := by decide +kernel
theorem dX5_worth_6 : decode cX5_worth 6 = .ok (.lreturn, 1) := by decide +kernel
theorem dX5_worth_7 : decode cX5_worth 7 = .ok (.lconst 0, 1) := by decide +kernel
theorem dX5_worth_8 : decode cX5_worth 8 = .ok (.lstore 4, 2) := by decide +kernel
theorem dX5_worth_10 : decode cX5_worth 10 = .ok (.iconst 0, 1) := by decide +kernel
theorem dX5_worth_11 : decode cX5_worth 11 = .ok (.istore 6, 2) := by decide +kernel
theorem dX5_worth_13 : decode cX5_worth 13 = .ok (.iload 6, 2) := by decide +kernel
theorem dX5_worth_15 : decode cX5_worth 15 = .ok (.sipush 256, 3) := by decide +kernel
theorem dX5_worth_18 : decode cX5_worth 18 = .ok (.if_icmp .ge 33, 3) := by decide +kernel
theorem dX5_worth_21 : decode cX5_worth 21 = .ok (.aload_n 0, 1) := by decide +kernel
theorem dX5_worth_22 : decode cX5_worth 22 = .ok (.getfield 9, 3) := by decide +kernel
theorem dX5_worth_25 : decode cX5_worth 25 = .ok (.iload 6, 2) := by decide +kernel
theorem dX5_worth_27 : decode cX5_worth 27 = .ok (.iaload, 1) := by decide +kernel
theorem dX5_worth_28 : decode cX5_worth 28 = .ok (.iload_n 1, 1) := by decide +kernel
theorem dX5_worth_29 : decode cX5_worth 29 = .ok (.if_icmp .ne 16, 3) := by decide +kernel
theorem dX5_worth_32 : decode cX5_worth 32 = .ok (.lload 4, 2) := by decide +kernel
theorem dX5_worth_34 : decode cX5_worth 34 = .ok (.aload_n 2, 1) := by decide +kernel
theorem dX5_worth_35 : decode cX5_worth 35 = .ok (.iload 6, 2) := by decide +kernel
theorem dX5_worth_37 : decode cX5_worth 37 = .ok (.aload_n 3, 1) := by decide +kernel
theorem dX5_worth_38 : decode cX5_worth 38 = .ok (.invokevirtual 57, 3) := by decide +kernel
theorem dX5_worth_41 : decode cX5_worth 41 = .ok (.i2l, 1) := by decide +kernel
theorem dX5_worth_42 : decode cX5_worth 42 = .ok (.ladd, 1) := by decide +kernel
theorem dX5_worth_43 : decode cX5_worth 43 = .ok (.lstore 4, 2) := by decide +kernel
theorem dX5_worth_45 : decode cX5_worth 45 = .ok (.iinc 6 1, 3) := by decide +kernel
theorem dX5_worth_48 : decode cX5_worth 48 = .ok (.goto (-35), 3) := by decide +kernel
theorem dX5_worth_51 : decode cX5_worth 51 = .ok (.lload 4, 2) := by decide +kernel
theorem dX5_worth_53 : decode cX5_worth 53 = .ok (.lreturn, 1) := by decide +kernel
theorem dX5_tell_0 : decode cX5_tell 0 = .ok (.iload_n 2, 1) := by decide +kernel
theorem dX5_tell_1 : decode cX5_tell 1 = .ok (.tableswitch 55 0 2 #[27, 34, 41], 27) := by decide +kernel
theorem dX5_tell_28 : decode cX5_tell 28 = .ok (.aload_n 0, 1) := by decide +kernel
theorem dX5_tell_29 : decode cX5_tell 29 = .ok (.getfield 15, 3) := by decide +kernel
theorem dX5_tell_32 : decode cX5_tell 32 = .ok (.iload_n 1, 1) := by decide +kernel
theorem dX5_tell_33 : decode cX5_tell 33 = .ok (.iaload, 1) := by decide +kernel
theorem dX5_tell_34 : decode cX5_tell 34 = .ok (.ireturn, 1) := by decide +kernel
theorem dX5_tell_35 : decode cX5_tell 35 = .ok (.aload_n 0, 1) := by decide +kernel
theorem dX5_tell_36 : decode cX5_tell 36 = .ok (.getfield 18, 3) := by decide +kernel
theorem dX5_tell_39 : decode cX5_tell 39 = .ok (.iload_n 1, 1) := by decide +kernel
theorem dX5_tell_40 : decode cX5_tell 40 = .ok (.iaload, 1) := by decide +kernel
theorem dX5_tell_41 : decode cX5_tell 41 = .ok (.ireturn, 1) := by decide +kernel
theorem dX5_tell_42 : decode cX5_tell 42 = .ok (.iload_n 1, 1) := by decide +kernel
theorem dX5_tell_43 : decode cX5_tell 43 = .ok (.aload_n 0, 1) := by decide +kernel
theorem dX5_tell_44 : decode cX5_tell 44 = .ok (.getfield 46, 3) := by decide +kernel
theorem dX5_tell_47 : decode cX5_tell 47 = .ok (.if_icmp .ne 7, 3) := by decide +kernel
theorem dX5_tell_50 : decode cX5_tell 50 = .ok (.iconst 1, 1) := by decide +kernel
theorem dX5_tell_51 : decode cX5_tell 51 = .ok (.goto 4, 3) := by decide +kernel
theorem dX5_tell_54 : decode cX5_tell 54 = .ok (.iconst 0, 1) := by decide +kernel
theorem dX5_tell_55 : decode cX5_tell 55 = .ok (.ireturn, 1) := by decide +kernel
theorem dX5_tell_56 : decode cX5_tell 56 = .ok (.aload_n 0, 1) := by decide +kernel
theorem dX5_tell_57 : decode cX5_tell 57 = .ok (.getfield 21, 3) := by decide +kernel
theorem dX5_tell_60 : decode cX5_tell 60 = .ok (.iload_n 1, 1) := by decide +kernel
theorem dX5_tell_61 : decode cX5_tell 61 = .ok (.baload, 1) := by decide +kernel
theorem dX5_tell_62 : decode cX5_tell 62 = .ok (.ifCond .eq 7, 3) := by decide +kernel
theorem dX5_tell_65 : decode cX5_tell 65 = .ok (.iconst 1, 1) := by decide +kernel
theorem dX5_tell_66 : decode cX5_tell 66 = .ok (.goto 4, 3) := by decide +kernel
theorem dX5_tell_69 : decode cX5_tell 69 = .ok (.iconst 0, 1) := by decide +kernel
theorem dX5_tell_70 : decode cX5_tell 70 = .ok (.ireturn, 1) := by decide +kernel
theorem dX6_init_0 : decode cX6_init 0 = .ok (.aload_n 0, 1) := by decide +kernel
theorem dX6_init_1 : decode cX6_init 1 = .ok (.invokespecial 3, 3) := by decide +kernel
theorem dX6_init_4 : decode cX6_init 4 = .ok (.aload_n 0, 1) := by decide +kernel
theorem dX6_init_5 : decode cX6_init 5 = .ok (.new 9, 3) := by decide +kernel
theorem dX6_init_8 : decode cX6_init 8 = .ok (.dup, 1) := by decide +kernel
theorem dX6_init_9 : decode cX6_init 9 = .ok (.invokespecial 11, 3) := by decide +kernel
theorem dX6_init_12 : decode cX6_init 12 = .ok (.putfield 12, 3) := by decide +kernel
theorem dX6_init_15 : decode cX6_init 15 = .ok (.aload_n 0, 1) := by decide +kernel
theorem dX6_init_16 : decode cX6_init 16 = .ok (.new 16, 3) := by decide +kernel
theorem dX6_init_19 : decode cX6_init 19 = .ok (.dup, 1) := by decide +kernel
theorem dX6_init_20 : decode cX6_init 20 = .ok (.invokespecial 18, 3) := by decide +kernel
theorem dX6_init_23 : decode cX6_init 23 = .ok (.putfield 19, 3) := by decide +kernel
theorem dX6_init_26 : decode cX6_init 26 = .ok (.aload_n 0, 1) := by decide +kernel
theorem dX6_init_27 : decode cX6_init 27 = .ok (.bipush 12, 2) := by decide +kernel
theorem dX6_init_29 : decode cX6_init 29 = .ok (.anewarray 23, 3) := by decide +kernel
theorem dX6_init_32 : decode cX6_init 32 = .ok (.putfield 25, 3) := by decide +kernel
theorem dX6_init_35 : decode cX6_init 35 = .ok (.iconst 0, 1) := by decide +kernel
theorem dX6_init_36 : decode cX6_init 36 = .ok (.istore_n 1, 1) := by decide +kernel
theorem dX6_init_37 : decode cX6_init 37 = .ok (.iload_n 1, 1) := by decide +kernel
theorem dX6_init_38 : decode cX6_init 38 = .ok (.bipush 12, 2) := by decide +kernel
theorem dX6_init_40 : decode cX6_init 40 = .ok (.if_icmp .ge 22, 3) := by decide +kernel
theorem dX6_init_43 : decode cX6_init 43 = .ok (.aload_n 0, 1) := by decide +kernel
theorem dX6_init_44 : decode cX6_init 44 = .ok (.getfield 25, 3) := by decide +kernel
theorem dX6_init_47 : decode cX6_init 47 = .ok (.iload_n 1, 1) := by decide +kernel
theorem dX6_init_48 : decode cX6_init 48 = .ok (.new 23, 3) := by decide +kernel
theorem dX6_init_51 : decode cX6_init 51 = .ok (.dup, 1) := by decide +kernel
theorem dX6_init_52 : decode cX6_init 52 = .ok (.invokespecial 29, 3) := by decide +kernel
theorem dX6_init_55 : decode cX6_init 55 = .ok (.aastore, 1) := by decide +kernel
theorem dX6_init_56 : decode cX6_init 56 = .ok (.iinc 1 1, 3) := by decide +kernel
theorem dX6_init_59 : decode cX6_init 59 = .ok (.goto (-22), 3) := by decide +kernel
theorem dX6_init_62 : decode cX6_init 62 = .ok (.aload_n 0, 1) := by decide +kernel
theorem dX6_init_63 : decode cX6_init 63 = .ok (.iconst 4, 1) := by decide +kernel
theorem dX6_init_64 : decode cX6_init 64 = .ok (.anewarray 30, 3) := by decide +kernel
theorem dX6_init_67 : decode cX6_init 67 = .ok (.putfield 32, 3) := by decide +kernel
theorem dX6_init_70 : decode cX6_init 70 = .ok (.iconst 0, 1) := by decide +kernel
theorem dX6_init_71 : decode cX6_init 71 = .ok (.istore_n 1, 1) := by decide +kernel
theorem dX6_init_72 : decode cX6_init 72 = .ok (.iload_n 1, 1) := by decide +kernel
theorem dX6_init_73 : decode cX6_init 73 = .ok (.iconst 4, 1) := by decide +kernel
theorem dX6_init_74 : decode cX6_init 74 = .ok (.if_icmp .ge 22, 3) := by decide +kernel
theorem dX6_init_77 : decode cX6_init 77 = .ok (.aload_n 0, 1) := by decide +kernel
theorem dX6_init_78 : decode cX6_init 78 = .ok (.getfield 32, 3) := by decide +kernel
theorem dX6_init_81 : decode cX6_init 81 = .ok (.iload_n 1, 1) := by decide +kernel
theorem dX6_init_82 : decode cX6_init 82 = .ok (.new 30, 3) := by decide +kernel
theorem dX6_init_85 : decode cX6_init 85 = .ok (.dup, 1) := by decide +kernel
theorem dX6_init_86 : decode cX6_init 86 = .ok (.invokespecial 36, 3) := by decide +kernel
theorem dX6_init_89 : decode cX6_init 89 = .ok (.aastore, 1) := by decide +kernel
theorem dX6_init_90 : decode cX6_init 90 = .ok (.iinc 1 1, 3) := by decide +kernel
theorem dX6_init_93 : decode cX6_init 93 = .ok (.goto (-21), 3) := by decide +kernel
theorem dX6_init_96 : decode cX6_init 96 = .ok (.aload_n 0, 1) := by decide +kernel
theorem dX6_init_97 : decode cX6_init 97 = .ok (.iconst 4, 1) := by decide +kernel
theorem dX6_init_98 : decode cX6_init 98 = .ok (.newarray .int, 2) := by decide +kernel
theorem dX6_init_100 : decode cX6_init 100 = .ok (.putfield 37, 3) := by decide +kernel
theorem dX6_init_103 : decode cX6_init 103 = .ok (.aload_n 0, 1) := by decide +kernel
theorem dX6_init_104 : decode cX6_init 104 = .ok (.iconst 5, 1) := by decide +kernel
theorem dX6_init_105 : decode cX6_init 105 = .ok (.newarray .int, 2) := by decide +kernel
theorem dX6_init_107 : decode cX6_init 107 = .ok (.putfield 41, 3) := by decide +kernel
theorem dX6_init_110 : decode cX6_init 110 = .ok (.aload_n 0, 1) := by decide +kernel
theorem dX6_init_111 : decode cX6_init 111 = .ok (.getfield 41, 3) := by decide +kernel
theorem dX6_init_114 : decode cX6_init 114 = .ok (.iconst 4, 1) := by decide +kernel
theorem dX6_init_115 : decode cX6_init 115 = .ok (.bipush 28, 2) := by decide +kernel
theorem dX6_init_117 : decode cX6_init 117 = .ok (.iastore, 1) := by decide +kernel
theorem dX6_init_118 : decode cX6_init 118 = .ok (.aload_n 0, 1) := by decide +kernel
theorem dX6_init_119 : decode cX6_init 119 = .ok (.bipush 60, 2) := by decide +kernel
theorem dX6_init_121 : decode cX6_init 121 = .ok (.anewarray 44, 3) := by decide +kernel
theorem dX6_init_124 : decode cX6_init 124 = .ok (.putfield 46, 3) := by decide +kernel
theorem dX6_init_127 : decode cX6_init 127 = .ok (.aload_n 0, 1) := by decide +kernel
theorem dX6_init_128 : decode cX6_init 128 = .ok (.getfield 12, 3) := by decide +kernel
theorem dX6_init_131 : decode cX6_init 131 = .ok (.iconst 1, 1) := by decide +kernel
theorem dX6_init_132 : decode cX6_init 132 = .ok (.iconst 1, 1) := by decide +kernel
theorem dX6_init_133 : decode cX6_init 133 = .ok (.invokevirtual 50, 3) := by decide +kernel
theorem dX6_init_136 : decode cX6_init 136 = .ok (.return_, 1) := by decide +kernel
theorem dX6_map_0 : decode cX6_map 0 = .ok (.iload_n 1, 1) := by decide +kernel
theorem dX6_map_1 : decode cX6_map 1 = .ok (.iconst 1, 1) := by decide +kernel
theorem dX6_map_2 : decode cX6_map 2 = .ok (.if_icmp .lt 20, 3) := by decide +kernel
theorem dX6_map_5 : decode cX6_map 5 = .ok (.iload_n 1, 1) := by decide +kernel
theorem dX6_map_6 : decode cX6_map 6 = .ok (.bipush 16, 2) := by decide +kernel
theorem dX6_map_8 : decode cX6_map 8 = .ok (.if_icmp .gt 14, 3) := by decide +kernel
theorem dX6_map_11 : decode cX6_map 11 = .ok (.iload_n 2, 1) := by decide +kernel
theorem dX6_map_12 : decode cX6_map 12 = .ok (.iconst 1, 1) := by decide +kernel
theorem dX6_map_13 : decode cX6_map 13 = .ok (.if_icmp .lt 9, 3) := by decide +kernel
theorem dX6_map_16 : decode cX6_map 16 = .ok (.iload_n 2, 1) := by decide +kernel
theorem dX6_map_17 : decode cX6_map 17 = .ok (.bipush 16, 2) := by decide +kernel
theorem dX6_map_19 : decode cX6_map 19 = .ok (.if_icmp .le 6, 3) := by decide +kernel
theorem dX6_map_22 : decode cX6_map 22 = .ok (.bipush (-102), 2) := by decide +kernel
theorem dX6_map_24 : decode cX6_map 24 = .ok (.ireturn, 1) := by decide +kernel
theorem dX6_map_25 : decode cX6_map 25 = .ok (.aload_n 0, 1) := by decide +kernel
theorem dX6_map_26 : decode cX6_map 26 = .ok (.invokevirtual 54, 3) := by decide +kernel
theorem dX6_map_29 : decode cX6_map 29 = .ok (.ifCond .eq 6, 3) := by decide +kernel
theorem dX6_map_32 : decode cX6_map 32 = .ok (.bipush (-103), 2) := by decide +kernel
theorem dX6_map_34 : decode cX6_map 34 = .ok (.ireturn, 1) := by decide +kernel
theorem dX6_map_35 : decode cX6_map 35 = .ok (.aload_n 0, 1) := by decide +kernel
theorem dX6_map_36 : decode cX6_map 36 = .ok (.getfield 12, 3) := by decide +kernel
theorem dX6_map_39 : decode cX6_map 39 = .ok (.iload_n 1, 1) := by decide +kernel
theorem dX6_map_40 : decode cX6_map 40 = .ok (.iload_n 2, 1) := by decide +kernel
theorem dX6_map_41 : decode cX6_map 41 = .ok (.invokevirtual 50, 3) := by decide +kernel
theorem dX6_map_44 : decode cX6_map 44 = .ok (.aload_n 0, 1) := by decide +kernel
theorem dX6_map_45 : decode cX6_map 45 = .ok (.iconst 0, 1) := by decide +kernel
theorem dX6_map_46 : decode cX6_map 46 = .ok (.putfield 58, 3) := by decide +kernel
theorem dX6_map_49 : decode cX6_map 49 = .ok (.iload_n 1, 1) := by decide +kernel
theorem dX6_map_50 : decode cX6_map 50 = .ok (.iload_n 2, 1) := by decide +kernel
theorem dX6_map_51 : decode cX6_map 51 = .ok (.imul, 1) := by decide +kernel
theorem dX6_map_52 : decode cX6_map 52 = .ok (.ireturn, 1) := by decide +kernel
theorem dX6_field_0 : decode cX6_field 0 = .ok (.aload_n 0, 1) := by decide +kernel
theorem dX6_field_1 : decode cX6_field 1 = .ok (.invokevirtual 54, 3) := by decide +kernel
theorem dX6_field_4 : decode cX6_field 4 = .ok (.ifCond .eq 6, 3) := by decide +kernel
theorem dX6_field_7 : decode cX6_field 7 = .ok (.bipush (-103), 2) := by decide +kernel
theorem dX6_field_9 : decode cX6_field 9 = .ok (.ireturn, 1) := by decide +kernel
theorem dX6_field_10 : decode cX6_field 10 = .ok (.aload_n 0, 1) := by decide +kernel
theorem dX6_field_11 : decode cX6_field 11 = .ok (.getfield 58, 3) := by decide +kernel
theorem dX6_field_14 : decode cX6_field 14 = .ok (.bipush 12, 2) := by decide +kernel
theorem dX6_field_16 : decode cX6_field 16 = .ok (.if_icmp .lt 6, 3) := by decide +kernel
theorem dX6_field_19 : decode cX6_field 19 = .ok (.bipush (-104), 2) := by decide +kernel
theorem dX6_field_21 : decode cX6_field 21 = .ok (.ireturn, 1) := by decide +kernel
theorem dX6_field_22 : decode cX6_field 22 = .ok (.aload_n 0, 1) := by decide +kernel
theorem dX6_field_23 : decode cX6_field 23 = .ok (.getfield 25, 3) := by decide +kernel
theorem dX6_field_26 : decode cX6_field 26 = .ok (.aload_n 0, 1) := by decide +kernel
theorem dX6_field_27 : decode cX6_field 27 = .ok (.getfield 58, 3) := by decide +kernel
theorem dX6_field_30 : decode cX6_field 30 = .ok (.aaload, 1) := by decide +kernel
theorem dX6_field_31 : decode cX6_field 31 = .ok (.invokevirtual 62, 3) := by decide +kernel
theorem dX6_field_34 : decode cX6_field 34 = .ok (.aload_n 0, 1) := by decide +kernel
theorem dX6_field_35 : decode cX6_field 35 = .ok (.dup, 1) := by decide +kernel
theorem dX6_field_36 : decode cX6_field 36 = .ok (.getfield 58, 3) := by decide +kernel
theorem dX6_field_39 : decode cX6_field 39 = .ok (.iconst 1, 1) := by decide +kernel
theorem dX6_field_40 : decode cX6_field 40 = .ok (.iadd, 1) := by decide +kernel
theorem dX6_field_41 : decode cX6_field 41 = .ok (.putfield 58, 3) := by decide +kernel
theorem dX6_field_44 : decode cX6_field 44 = .ok (.aload_n 0, 1) := by decide +kernel
theorem dX6_field_45 : decode cX6_field 45 = .ok (.getfield 58, 3) := by decide +kernel
theorem dX6_field_48 : decode cX6_field 48 = .ok (.iconst 1, 1) := by decide +kernel
theorem dX6_field_49 : decode cX6_field 49 = .ok (.isub, 1) := by decide +kernel
theorem dX6_field_50 : decode cX6_field 50 = .ok (.ireturn, 1) := by decide +kernel
theorem dX6_cell_0 : decode cX6_cell 0 = .ok (.aload_n 0, 1) := by decide +kernel
theorem dX6_cell_1 : decode cX6_cell 1 = .ok (.getfield 12, 3) := by decide +kernel
theorem dX6_cell_4 : decode cX6_cell 4 = .ok (.iload_n 1, 1) := by decide +kernel
theorem dX6_cell_5 : decode cX6_cell 5 = .ok (.iload_n 2, 1) := by decide +kernel
theorem dX6_cell_6 : decode cX6_cell 6 = .ok (.invokevirtual 65, 3) := by decide +kernel
theorem dX6_cell_9 : decode cX6_cell 9 = .ok (.istore 5, 2) := by decide +kernel
theorem dX6_cell_11 : decode cX6_cell 11 = .ok (.iload 5, 2) := by decide +kernel
theorem dX6_cell_13 : decode cX6_cell 13 = .ok (.iconst (-1), 1) := by decide +kernel
theorem dX6_cell_14 : decode cX6_cell 14 = .ok (.if_icmp .eq 16, 3) := by decide +kernel
theorem dX6_cell_17 : decode cX6_cell 17 = .ok (.iload_n 3, 1) := by decide +kernel
theorem dX6_cell_18 : decode cX6_cell 18 = .ok (.iconst (-1), 1) := by decide +kernel
theorem dX6_cell_19 : decode cX6_cell 19 = .ok (.if_icmp .eq 14, 3) := by decide +kernel
theorem dX6_cell_22 : decode cX6_cell 22 = .ok (.aload_n 0, 1) := by decide +kernel
theorem dX6_cell_23 : decode cX6_cell 23 = .ok (.iload_n 3, 1) := by decide +kernel
theorem dX6_cell_24 : decode cX6_cell 24 = .ok (.invokevirtual 69, 3) := by decide +kernel
theorem dX6_cell_27 : decode cX6_cell 27 = .ok (.ifCond .ne 6, 3) := by decide +kernel
theorem dX6_cell_30 : decode cX6_cell 30 = .ok (.bipush (-101), 2) := by decide +kernel
theorem dX6_cell_32 : decode cX6_cell 32 = .ok (.ireturn, 1) := by decide +kernel
theorem dX6_cell_33 : decode cX6_cell 33 = .ok (.iload 4, 2) := by decide +kernel
theorem dX6_cell_35 : decode cX6_cell 35 = .ok (.invokestatic 73, 3) := by decide +kernel
theorem dX6_cell_38 : decode cX6_cell 38 = .ok (.ifCond .ne 6, 3) := by decide +kernel
theorem dX6_cell_41 : decode cX6_cell 41 = .ok (.bipush (-102), 2) := by decide +kernel
theorem dX6_cell_43 : decode cX6_cell 43 = .ok (.ireturn, 1) := by decide +kernel
theorem dX6_cell_44 : decode cX6_cell 44 = .ok (.aload_n 0, 1) := by decide +kernel
theorem dX6_cell_45 : decode cX6_cell 45 = .ok (.invokevirtual 54, 3) := by decide +kernel
theorem dX6_cell_48 : decode cX6_cell 48 = .ok (.ifCond .eq 6, 3) := by decide +kernel
theorem dX6_cell_51 : decode cX6_cell 51 = .ok (.bipush (-103), 2) := by decide +kernel
theorem dX6_cell_53 : decode cX6_cell 53 = .ok (.ireturn, 1) := by decide +kernel
theorem dX6_cell_54 : decode cX6_cell 54 = .ok (.aload_n 0, 1) := by decide +kernel
theorem dX6_cell_55 : decode cX6_cell 55 = .ok (.iload 5, 2) := by decide +kernel
theorem dX6_cell_57 : decode cX6_cell 57 = .ok (.invokevirtual 76, 3) := by decide +kernel
theorem dX6_cell_60 : decode cX6_cell 60 = .ok (.aload_n 0, 1) := by decide +kernel
theorem dX6_cell_61 : decode cX6_cell 61 = .ok (.getfield 12, 3) := by decide +kernel
theorem dX6_cell_64 : decode cX6_cell 64 = .ok (.getfield 80, 3) := by decide +kernel
theorem dX6_cell_67 : decode cX6_cell 67 = .ok (.iload 5, 2) := by decide +kernel
theorem dX6_cell_69 : decode cX6_cell 69 = .ok (.iload_n 3, 1) := by decide +kernel
theorem dX6_cell_70 : decode cX6_cell 70 = .ok (.iastore, 1) := by decide +kernel
theorem dX6_cell_71 : decode cX6_cell 71 = .ok (.aload_n 0, 1) := by decide +kernel
theorem dX6_cell_72 : decode cX6_cell 72 = .ok (.getfield 12, 3) := by decide +kernel
theorem dX6_cell_75 : decode cX6_cell 75 = .ok (.getfield 83, 3) := by decide +kernel
theorem dX6_cell_78 : decode cX6_cell 78 = .ok (.iload 5, 2) := by decide +kernel
theorem dX6_cell_80 : decode cX6_cell 80 = .ok (.iload 4, 2) := by decide +kernel
theorem dX6_cell_82 : decode cX6_cell 82 = .ok (.iastore, 1) := by decide +kernel
theorem dX6_cell_83 : decode cX6_cell 83 = .ok (.aload_n 0, 1) := by decide +kernel
theorem dX6_cell_84 : decode cX6_cell 84 = .ok (.getfield 12, 3) := by decide +kernel
theorem dX6_cell_87 : decode cX6_cell 87 = .ok (.getfield 86, 3) := by decide +kernel
theorem dX6_cell_90 : decode cX6_cell 90 = .ok (.iload 5, 2) := by decide +kernel
theorem dX6_cell_92 : decode cX6_cell 92 = .ok (.iconst 0, 1) := by decide +kernel
theorem dX6_cell_93 : decode cX6_cell 93 = .ok (.bastore, 1) := by decide +kernel
theorem dX6_cell_94 : decode cX6_cell 94 = .ok (.iconst 1, 1) := by decide +kernel
theorem dX6_cell_95 : decode cX6_cell 95 = .ok (.ireturn, 1) := by decide +kernel
theorem dX6_lane_0 : decode cX6_lane 0 = .ok (.aload_n 0, 1) := by decide +kernel
theorem dX6_lane_1 : decode cX6_lane 1 = .ok (.getfield 12, 3) := by decide +kernel
theorem dX6_lane_4 : decode cX6_lane 4 = .ok (.iload_n 1, 1) := by decide +kernel
theorem dX6_lane_5 : decode cX6_lane 5 = .ok (.iload_n 2, 1) := by decide +kernel
theorem dX6_lane_6 : decode cX6_lane 6 = .ok (.invokevirtual 65, 3) := by decide +kernel
theorem dX6_lane_9 : decode cX6_lane 9 = .ok (.istore_n 3, 1) := by decide +kernel
theorem dX6_lane_10 : decode cX6_lane 10 = .ok (.iload_n 3, 1) := by decide +kernel
theorem dX6_lane_11 : decode cX6_lane 11 = .ok (.iconst (-1), 1) := by decide +kernel
theorem dX6_lane_12 : decode cX6_lane 12 = .ok (.if_icmp .ne 6, 3) := by decide +kernel
theorem dX6_lane_15 : decode cX6_lane 15 = .ok (.bipush (-101), 2) := by decide +kernel
theorem dX6_lane_17 : decode cX6_lane 17 = .ok (.ireturn, 1) := by decide +kernel
theorem dX6_lane_18 : decode cX6_lane 18 = .ok (.aload_n 0, 1) := by decide +kernel
theorem dX6_lane_19 : decode cX6_lane 19 = .ok (.invokevirtual 54, 3) := by decide +kernel
theorem dX6_lane_22 : decode cX6_lane 22 = .ok (.ifCond .eq 6, 3) := by decide +kernel
theorem dX6_lane_25 : decode cX6_lane 25 = .ok (.bipush (-103), 2) := by decide +kernel
theorem dX6_lane_27 : decode cX6_lane 27 = .ok (.ireturn, 1) := by decide +kernel
theorem dX6_lane_28 : decode cX6_lane 28 = .ok (.aload_n 0, 1) := by decide +kernel
theorem dX6_lane_29 : decode cX6_lane 29 = .ok (.iload_n 3, 1) := by decide +kernel
theorem dX6_lane_30 : decode cX6_lane 30 = .ok (.invokevirtual 76, 3) := by decide +kernel
theorem dX6_lane_33 : decode cX6_lane 33 = .ok (.aload_n 0, 1) := by decide +kernel
theorem dX6_lane_34 : decode cX6_lane 34 = .ok (.getfield 12, 3) := by decide +kernel
theorem dX6_lane_37 : decode cX6_lane 37 = .ok (.getfield 80, 3) := by decide +kernel
theorem dX6_lane_40 : decode cX6_lane 40 = .ok (.iload_n 3, 1) := by decide +kernel
theorem dX6_lane_41 : decode cX6_lane 41 = .ok (.iconst (-1), 1) := by decide +kernel
theorem dX6_lane_42 : decode cX6_lane 42 = .ok (.iastore, 1) := by decide +kernel
theorem dX6_lane_43 : decode cX6_lane 43 = .ok (.aload_n 0, 1) := by decide +kernel
theorem dX6_lane_44 : decode cX6_lane 44 = .ok (.getfield 12, 3) := by decide +kernel
theorem dX6_lane_47 : decode cX6_lane 47 = .ok (.getfield 86, 3) := by decide +kernel
theorem dX6_lane_50 : decode cX6_lane 50 = .ok (.iload_n 3, 1) := by decide +kernel
theorem dX6_lane_51 : decode cX6_lane 51 = .ok (.iconst 1, 1) := by decide +kernel
theorem dX6_lane_52 : decode cX6_lane 52 = .ok (.bastore, 1) := by decide +kernel
theorem dX6_lane_53 : decode cX6_lane 53 = .ok (.iconst 1, 1) := by decide +kernel
theorem dX6_lane_54 : decode cX6_lane 54 = .ok (.ireturn, 1) := by decide +kernel
theorem dX6_house_0 : decode cX6_house 0 = .ok (.aload_n 0, 1) := by decide +kernel
theorem dX6_house_1 : decode cX6_house 1 = .ok (.getfield 12, 3) := by decide +kernel
theorem dX6_house_4 : decode cX6_house 4 = .ok (.iload_n 2, 1) := by decide +kernel
theorem dX6_house_5 : decode cX6_house 5 = .ok (.iload_n 3, 1) := by decide +kernel
theorem dX6_house_6 : decode cX6_house 6 = .ok (.invokevirtual 65, 3) := by decide +kernel
theorem dX6_house_9 : decode cX6_house 9 = .ok (.istore 4, 2) := by decide +kernel
theorem dX6_house_11 : decode cX6_house 11 = .ok (.aload_n 0, 1) := by decide +kernel
theorem dX6_house_12 : decode cX6_house 12 = .ok (.iload_n 1, 1) := by decide +kernel
theorem dX6_house_13 : decode cX6_house 13 = .ok (.invokevirtual 69, 3) := by decide +kernel
theorem dX6_house_16 : decode cX6_house 16 = .ok (.ifCond .eq 9, 3) := by decide +kernel
theorem dX6_house_19 : decode cX6_house 19 = .ok (.iload 4, 2) := by decide +kernel
theorem dX6_house_21 : decode cX6_house 21 = .ok (.iconst (-1), 1) := by decide +kernel
theorem dX6_house_22 : decode cX6_house 22 = .ok (.if_icmp .ne 6, 3) := by decide +kernel
theorem dX6_house_25 : decode cX6_house 25 = .ok (.bipush (-101), 2) := by decide +kernel
theorem dX6_house_27 : decode cX6_house 27 = .ok (.ireturn, 1) := by decide +kernel
theorem dX6_house_28 : decode cX6_house 28 = .ok (.aload_n 0, 1) := by decide +kernel
theorem dX6_house_29 : decode cX6_house 29 = .ok (.getfield 12, 3) := by decide +kernel
theorem dX6_house_32 : decode cX6_house 32 = .ok (.getfield 80, 3) := by decide +kernel
theorem dX6_house_35 : decode cX6_house 35 = .ok (.iload 4, 2) := by decide +kernel
theorem dX6_house_37 : decode cX6_house 37 = .ok (.iaload, 1) := by decide +kernel
theorem dX6_house_38 : decode cX6_house 38 = .ok (.iload_n 1, 1) := by decide +kernel
theorem dX6_house_39 : decode cX6_house 39 = .ok (.if_icmp .eq 6, 3) := by decide +kernel
theorem dX6_house_42 : decode cX6_house 42 = .ok (.bipush (-102), 2) := by decide +kernel
theorem dX6_house_44 : decode cX6_house 44 = .ok (.ireturn, 1) := by decide +kernel
theorem dX6_house_45 : decode cX6_house 45 = .ok (.aload_n 0, 1) := by decide +kernel
theorem dX6_house_46 : decode cX6_house 46 = .ok (.invokevirtual 54, 3) := by decide +kernel
theorem dX6_house_49 : decode cX6_house 49 = .ok (.ifCond .eq 6, 3) := by decide +kernel
theorem dX6_house_52 : decode cX6_house 52 = .ok (.bipush (-103), 2) := by decide +kernel
theorem dX6_house_54 : decode cX6_house 54 = .ok (.ireturn, 1) := by decide +kernel
theorem dX6_house_55 : decode cX6_house 55 = .ok (.aload_n 0, 1) := by decide +kernel
theorem dX6_house_56 : decode cX6_house 56 = .ok (.getfield 25, 3) := by decide +kernel
theorem dX6_house_59 : decode cX6_house 59 = .ok (.iload_n 1, 1) := by decide +kernel
theorem dX6_house_60 : decode cX6_house 60 = .ok (.aaload, 1) := by decide +kernel
theorem dX6_house_61 : decode cX6_house 61 = .ok (.iload 4, 2) := by decide +kernel
theorem dX6_house_63 : decode cX6_house 63 = .ok (.putfield 90, 3) := by decide +kernel
theorem dX6_house_66 : decode cX6_house 66 = .ok (.iconst 1, 1) := by decide +kernel
theorem dX6_house_67 : decode cX6_house 67 = .ok (.ireturn, 1) := by decide +kernel
theorem dX6_right_0 : decode cX6_right 0 = .ok (.aload_n 0, 1) := by decide +kernel
theorem dX6_right_1 : decode cX6_right 1 = .ok (.iload_n 1, 1) := by decide +kernel
theorem dX6_right_2 : decode cX6_right 2 = .ok (.invokevirtual 69, 3) := by decide +kernel
theorem dX6_right_5 : decode cX6_right 5 = .ok (.ifCond .ne 6, 3) := by decide +kernel
theorem dX6_right_8 : decode cX6_right 8 = .ok (.bipush (-101), 2) := by decide +kernel
theorem dX6_right_10 : decode cX6_right 10 = .ok (.ireturn, 1) := by decide +kernel
theorem dX6_right_11 : decode cX6_right 11 = .ok (.iload_n 2, 1) := by decide +kernel
theorem dX6_right_12 : decode cX6_right 12 = .ok (.iload_n 3, 1) := by decide +kernel
theorem dX6_right_13 : decode cX6_right 13 = .ok (.invokestatic 93, 3) := by decide +kernel
theorem dX6_right_16 : decode cX6_right 16 = .ok (.ifCond .ne 6, 3) := by decide +kernel
theorem dX6_right_19 : decode cX6_right 19 = .ok (.bipush (-102), 2) := by decide +kernel
theorem dX6_right_21 : decode cX6_right 21 = .ok (.ireturn, 1) := by decide +kernel
theorem dX6_right_22 : decode cX6_right 22 = .ok (.aload_n 0, 1) := by decide +kernel
theorem dX6_right_23 : decode cX6_right 23 = .ok (.invokevirtual 54, 3) := by decide +kernel
theorem dX6_right_26 : decode cX6_right 26 = .ok (.ifCond .eq 6, 3) := by decide +kernel
theorem dX6_right_29 : decode cX6_right 29 = .ok (.bipush (-103), 2) := by decide +kernel
theorem dX6_right_31 : decode cX6_right 31 = .ok (.ireturn, 1) := by decide +kernel
theorem dX6_right_32 : decode cX6_right 32 = .ok (.aload_n 0, 1) := by decide +kernel
theorem dX6_right_33 : decode cX6_right 33 = .ok (.getfield 25, 3) := by decide +kernel
theorem dX6_right_36 : decode cX6_right 36 = .ok (.iload_n 1, 1) := by decide +kernel
theorem dX6_right_37 : decode cX6_right 37 = .ok (.aaload, 1) := by decide +kernel
theorem dX6_right_38 : decode cX6_right 38 = .ok (.iload_n 2, 1) := by decide +kernel
theorem dX6_right_39 : decode cX6_right 39 = .ok (.iload_n 3, 1) := by decide +kernel
theorem dX6_right_40 : decode cX6_right 40 = .ok (.invokevirtual 97, 3) := by decide +kernel
theorem dX6_right_43 : decode cX6_right 43 = .ok (.ireturn, 1) := by decide +kernel
theorem dX6_wasOrderMade_0 : decode cX6_wasOrderMade 0 = .ok (.aload_n 0, 1) := by decide +kernel
theorem dX6_wasOrderMade_1 : decode cX6_wasOrderMade 1 = .ok (.getfield 100, 3) := by decide +kernel
theorem dX6_wasOrderMade_4 : decode cX6_wasOrderMade 4 = .ok (.ifCond .gt 10, 3) := by decide +kernel
theorem dX6_wasOrderMade_7 : decode cX6_wasOrderMade 7 = .ok (.aload_n 0, 1) := by decide +kernel
theorem dX6_wasOrderMade_8 : decode cX6_wasOrderMade 8 = .ok (.getfield 103, 3) := by decide +kernel
theorem dX6_wasOrderMade_11 : decode cX6_wasOrderMade 11 = .ok (.ifCond .le 7, 3) := by decide +kernel
theorem dX6_wasOrderMade_14 : decode cX6_wasOrderMade 14 = .ok (.iconst 1, 1) := by decide +kernel
theorem dX6_wasOrderMade_15 : decode cX6_wasOrderMade 15 = .ok (.goto 4, 3) := by decide +kernel
theorem dX6_wasOrderMade_18 : decode cX6_wasOrderMade 18 = .ok (.iconst 0, 1) := by decide +kernel
theorem dX6_wasOrderMade_19 : decode cX6_wasOrderMade 19 = .ok (.ireturn, 1) := by decide +kernel
theorem dX6_isField_0 : decode cX6_isField 0 = .ok (.iload_n 1, 1) := by decide +kernel
theorem dX6_isField_1 : decode cX6_isField 1 = .ok (.ifCond .lt 21, 3) := by decide +kernel
theorem dX6_isField_4 : decode cX6_isField 4 = .ok (.iload_n 1, 1) := by decide +kernel
theorem dX6_isField_5 : decode cX6_isField 5 = .ok (.aload_n 0, 1) := by decide +kernel
theorem dX6_isField_6 : decode cX6_isField 6 = .ok (.getfield 58, 3) := by decide +kernel
theorem dX6_isField_9 : decode cX6_isField 9 = .ok (.if_icmp .ge 13, 3) := by decide +kernel
theorem dX6_isField_12 : decode cX6_isField 12 = .ok (.iload_n 1, 1) := by decide +kernel
theorem dX6_isField_13 : decode cX6_isField 13 = .ok (.bipush 12, 2) := by decide +kernel
theorem dX6_isField_15 : decode cX6_isField 15 = .ok (.if_icmp .ge 7, 3) := by decide +kernel
theorem dX6_isField_18 : decode cX6_isField 18 = .ok (.iconst 1, 1) := by decide +kernel
theorem dX6_isField_19 : decode cX6_isField 19 = .ok (.goto 4, 3) := by decide +kernel
theorem dX6_isField_22 : decode cX6_isField 22 = .ok (.iconst 0, 1) := by decide +kernel
theorem dX6_isField_23 : decode cX6_isField 23 = .ok (.ireturn, 1) := by decide +kernel
theorem dX6_isSoil_0 : decode cX6_isSoil 0 = .ok (.iload_n 0, 1) := by decide +kernel
theorem dX6_isSoil_1 : decode cX6_isSoil 1 = .ok (.ifCond .lt 12, 3) := by decide +kernel
theorem dX6_isSoil_4 : decode cX6_isSoil 4 = .ok (.iload_n 0, 1) := by decide +kernel
theorem dX6_isSoil_5 : decode cX6_isSoil 5 = .ok (.iconst 4, 1) := by decide +kernel
theorem dX6_isSoil_6 : decode cX6_isSoil 6 = .ok (.if_icmp .ge 7, 3) := by decide +kernel
theorem dX6_isSoil_9 : decode cX6_isSoil 9 = .ok (.iconst 1, 1) := by decide +kernel
theorem dX6_isSoil_10 : decode cX6_isSoil 10 = .ok (.goto 4, 3) := by decide +kernel
theorem dX6_isSoil_13 : decode cX6_isSoil 13 = .ok (.iconst 0, 1) := by decide +kernel
theorem dX6_isSoil_14 : decode cX6_isSoil 14 = .ok (.ireturn, 1) := by decide +kernel
theorem dX6_isAmount_0 : decode cX6_isAmount 0 = .ok (.iload_n 0, 1) := by decide +kernel
theorem dX6_isAmount_1 : decode cX6_isAmount 1 = .ok (.iconst 1, 1) := by decide +kernel
theorem dX6_isAmount_2 : decode cX6_isAmount 2 = .ok (.if_icmp .ne 19, 3) := by decide +kernel
theorem dX6_isAmount_5 : decode cX6_isAmount 5 = .ok (.iload_n 1, 1) := by decide +kernel
theorem dX6_isAmount_6 : decode cX6_isAmount 6 = .ok (.ifCond .lt 13, 3) := by decide +kernel
theorem dX6_isAmount_9 : decode cX6_isAmount 9 = .ok (.iload_n 1, 1) := by decide +kernel
theorem dX6_isAmount_10 : decode cX6_isAmount 10 = .ok (.ldc 106, 2) := by decide +kernel
theorem dX6_isAmount_12 : decode cX6_isAmount 12 = .ok (.if_icmp .gt 7, 3) := by decide +kernel
theorem dX6_isAmount_15 : decode cX6_isAmount 15 = .ok (.iconst 1, 1) := by decide +kernel
theorem dX6_isAmount_16 : decode cX6_isAmount 16 = .ok (.goto 4, 3) := by decide +kernel
theorem dX6_isAmount_19 : decode cX6_isAmount 19 = .ok (.iconst 0, 1) := by decide +kernel
theorem dX6_isAmount_20 : decode cX6_isAmount 20 = .ok (.ireturn, 1) := by decide +kernel
theorem dX6_isAmount_21 : decode cX6_isAmount 21 = .ok (.iload_n 0, 1) := by decide +kernel
theorem dX6_isAmount_22 : decode cX6_isAmount 22 = .ok (.iconst 2, 1) := by decide +kernel
theorem dX6_isAmount_23 : decode cX6_isAmount 23 = .ok (.if_icmp .ne 18, 3) := by decide +kernel
theorem dX6_isAmount_26 : decode cX6_isAmount 26 = .ok (.iload_n 1, 1) := by decide +kernel
theorem dX6_isAmount_27 : decode cX6_isAmount 27 = .ok (.ifCond .lt 14, 3) := by decide +kernel
theorem dX6_isAmount_30 : decode cX6_isAmount 30 = .ok (.iload_n 1, 1) := by decide +kernel
theorem dX6_isAmount_31 : decode cX6_isAmount 31 = .ok (.sipush 1000, 3) := by decide +kernel
theorem dX6_isAmount_34 : decode cX6_isAmount 34 = .ok (.if_icmp .gt 7, 3) := by decide +kernel
theorem dX6_isAmount_37 : decode cX6_isAmount 37 = .ok (.iconst 1, 1) := by decide +kernel
theorem dX6_isAmount_38 : decode cX6_isAmount 38 = .ok (.goto 4, 3) := by decide +kernel
theorem dX6_isAmount_41 : decode cX6_isAmount 41 = .ok (.iconst 0, 1) := by decide +kernel
theorem dX6_isAmount_42 : decode cX6_isAmount 42 = .ok (.ireturn, 1) := by decide +kernel
theorem dX6_pullDownHouse_0 : decode cX6_pullDownHouse 0 = .ok (.iconst 0, 1) := by decide +kernel
theorem dX6_pullDownHouse_1 : decode cX6_pullDownHouse 1 = .ok (.istore_n 2, 1) := by decide +kernel
theorem dX6_pullDownHouse_2 : decode cX6_pullDownHouse 2 = .ok (.iload_n 2, 1) := by decide +kernel
theorem dX6_pullDownHouse_3 : decode cX6_pullDownHouse 3 = .ok (.aload_n 0, 1) := by decide +kernel
theorem dX6_pullDownHouse_4 : decode cX6_pullDownHouse 4 = .ok (.getfield 58, 3) := by decide +kernel
theorem dX6_pullDownHouse_7 : decode cX6_pullDownHouse 7 = .ok (.if_icmp .ge 38, 3) := by decide +kernel
theorem dX6_pullDownHouse_10 : decode cX6_pullDownHouse 10 = .ok (.iload_n 2, 1) := by decide +kernel
theorem dX6_pullDownHouse_11 : decode cX6_pullDownHouse 11 = .ok (.bipush 12, 2) := by decide +kernel
theorem dX6_pullDownHouse_13 : decode cX6_pullDownHouse 13 = .ok (.if_icmp .ge 32, 3) := by decide +kernel
theorem dX6_pullDownHouse_16 : decode cX6_pullDownHouse 16 = .ok (.aload_n 0, 1) := by decide +kernel
theorem dX6_pullDownHouse_17 : decode cX6_pullDownHouse 17 = .ok (.getfield 25, 3) := by decide +kernel
theorem dX6_pullDownHouse_20 : decode cX6_pullDownHouse 20 = .ok (.iload_n 2, 1) := by decide +kernel
theorem dX6_pullDownHouse_21 : decode cX6_pullDownHouse 21 = .ok (.aaload, 1) := by decide +kernel
theorem dX6_pullDownHouse_22 : decode cX6_pullDownHouse 22 = .ok (.getfield 90, 3) := by decide +kernel
theorem dX6_pullDownHouse_25 : decode cX6_pullDownHouse 25 = .ok (.iload_n 1, 1) := by decide +kernel
theorem dX6_pullDownHouse_26 : decode cX6_pullDownHouse 26 = .ok (.if_icmp .ne 13, 3) := by decide +kernel
theorem dX6_pullDownHouse_29 : decode cX6_pullDownHouse 29 = .ok (.aload_n 0, 1) := by decide +kernel
theorem dX6_pullDownHouse_30 : decode cX6_pullDownHouse 30 = .ok (.getfield 25, 3) := by decide +kernel
theorem dX6_pullDownHouse_33 : decode cX6_pullDownHouse 33 = .ok (.iload_n 2, 1) := by decide +kernel
theorem dX6_pullDownHouse_34 : decode cX6_pullDownHouse 34 = .ok (.aaload, 1) := by decide +kernel
theorem dX6_pullDownHouse_35 : decode cX6_pullDownHouse 35 = .ok (.iconst (-1), 1) := by decide +kernel
theorem dX6_pullDownHouse_36 : decode cX6_pullDownHouse 36 = .ok (.putfield 90, 3) := by decide +kernel
theorem dX6_pullDownHouse_39 : decode cX6_pullDownHouse 39 = .ok (.iinc 2 1, 3) := by decide +kernel
theorem dX6_pullDownHouse_42 : decode cX6_pullDownHouse 42 = .ok (.goto (-40), 3) := by decide +kernel
theorem dX6_pullDownHouse_45 : decode cX6_pullDownHouse 45 = .ok (.return_, 1) := by decide +kernel
theorem dX6_price_0 : decode cX6_price 0 = .ok (.iload_n 1, 1) := by decide +kernel
theorem dX6_price_1 : decode cX6_price 1 = .ok (.invokestatic 73, 3) := by decide +kernel
theorem dX6_price_4 : decode cX6_price 4 = .ok (.ifCond .ne 6, 3) := by decide +kernel
theorem dX6_price_7 : decode cX6_price 7 = .ok (.bipush (-101), 2) := by decide +kernel
theorem dX6_price_9 : decode cX6_price 9 = .ok (.ireturn, 1) := by decide +kernel
theorem dX6_price_10 : decode cX6_price 10 = .ok (.iload_n 2, 1) := by decide +kernel
theorem dX6_price_11 : decode cX6_price 11 = .ok (.invokestatic 107, 3) := by decide +kernel
theorem dX6_price_14 : decode cX6_price 14 = .ok (.ifCond .eq 13, 3) := by decide +kernel
theorem dX6_price_17 : decode cX6_price 17 = .ok (.iload_n 3, 1) := by decide +kernel
theorem dX6_price_18 : decode cX6_price 18 = .ok (.ifCond .lt 9, 3) := by decide +kernel
theorem dX6_price_21 : decode cX6_price 21 = .ok (.iload_n 3, 1) := by decide +kernel
theorem dX6_price_22 : decode cX6_price 22 = .ok (.ldc 110, 2) := by decide +kernel
theorem dX6_price_24 : decode cX6_price 24 = .ok (.if_icmp .le 6, 3) := by decide +kernel
theorem dX6_price_27 : decode cX6_price 27 = .ok (.bipush (-102), 2) := by decide +kernel
theorem dX6_price_29 : decode cX6_price 29 = .ok (.ireturn, 1) := by decide +kernel
theorem dX6_price_30 : decode cX6_price 30 = .ok (.aload_n 0, 1) := by decide +kernel
theorem dX6_price_31 : decode cX6_price 31 = .ok (.getfield 32, 3) := by decide +kernel
theorem dX6_price_34 : decode cX6_price 34 = .ok (.iload_n 1, 1) := by decide +kernel
theorem dX6_price_35 : decode cX6_price 35 = .ok (.aaload, 1) := by decide +kernel
theorem dX6_price_36 : decode cX6_price 36 = .ok (.iload_n 2, 1) := by decide +kernel
theorem dX6_price_37 : decode cX6_price 37 = .ok (.iload_n 3, 1) := by decide +kernel
theorem dX6_price_38 : decode cX6_price 38 = .ok (.invokevirtual 111, 3) := by decide +kernel
theorem dX6_price_41 : decode cX6_price 41 = .ok (.ireturn, 1) := by decide +kernel
theorem dX6_costs_0 : decode cX6_costs 0 = .ok (.iload_n 1, 1) := by decide +kernel
theorem dX6_costs_1 : decode cX6_costs 1 = .ok (.invokestatic 73, 3) := by decide +kernel
theorem dX6_costs_4 : decode cX6_costs 4 = .ok (.ifCond .ne 6, 3) := by decide +kernel
theorem dX6_costs_7 : decode cX6_costs 7 = .ok (.bipush (-101), 2) := by decide +kernel
theorem dX6_costs_9 : decode cX6_costs 9 = .ok (.ireturn, 1) := by decide +kernel
theorem dX6_costs_10 : decode cX6_costs 10 = .ok (.iload_n 2, 1) := by decide +kernel
theorem dX6_costs_11 : decode cX6_costs 11 = .ok (.invokestatic 107, 3) := by decide +kernel
theorem dX6_costs_14 : decode cX6_costs 14 = .ok (.ifCond .ne 6, 3) := by decide +kernel
theorem dX6_costs_17 : decode cX6_costs 17 = .ok (.bipush (-102), 2) := by decide +kernel
theorem dX6_costs_19 : decode cX6_costs 19 = .ok (.ireturn, 1) := by decide +kernel
theorem dX6_costs_20 : decode cX6_costs 20 = .ok (.aload_n 0, 1) := by decide +kernel
theorem dX6_costs_21 : decode cX6_costs 21 = .ok (.getfield 32, 3) := by decide +kernel
theorem dX6_costs_24 : decode cX6_costs 24 = .ok (.iload_n 1, 1) := by decide +kernel
theorem dX6_costs_25 : decode cX6_costs 25 = .ok (.aaload, 1) := by decide +kernel
theorem dX6_costs_26 : decode cX6_costs 26 = .ok (.iload_n 2, 1) := by decide +kernel
theorem dX6_costs_27 : decode cX6_costs 27 = .ok (.invokevirtual 114, 3) := by decide +kernel
theorem dX6_costs_30 : decode cX6_costs 30 = .ok (.ireturn, 1) := by decide +kernel
theorem dX6_rate_0 : decode cX6_rate 0 = .ok (.iload_n 1, 1) := by decide +kernel
theorem dX6_rate_1 : decode cX6_rate 1 = .ok (.ifCond .lt 8, 3) := by decide +kernel
theorem dX6_rate_4 : decode cX6_rate 4 = .ok (.iload_n 1, 1) := by decide +kernel
theorem dX6_rate_5 : decode cX6_rate 5 = .ok (.iconst 5, 1) := by decide +kernel
theorem dX6_rate_6 : decode cX6_rate 6 = .ok (.if_icmp .lt 6, 3) := by decide +kernel
theorem dX6_rate_9 : decode cX6_rate 9 = .ok (.bipush (-101), 2) := by decide +kernel
theorem dX6_rate_11 : decode cX6_rate 11 = .ok (.ireturn, 1) := by decide +kernel
theorem dX6_rate_12 : decode cX6_rate 12 = .ok (.iload_n 2, 1) := by decide +kernel
theorem dX6_rate_13 : decode cX6_rate 13 = .ok (.ifCond .lt 12, 3) := by decide +kernel
theorem dX6_rate_16 : decode cX6_rate 16 = .ok (.iload_n 2, 1) := by decide +kernel
theorem dX6_rate_17 : decode cX6_rate 17 = .ok (.getstatic 118, 3) := by decide +kernel
theorem dX6_rate_20 : decode cX6_rate 20 = .ok (.iload_n 1, 1) := by decide +kernel
theorem dX6_rate_21 : decode cX6_rate 21 = .ok (.iaload, 1) := by decide +kernel
theorem dX6_rate_22 : decode cX6_rate 22 = .ok (.if_icmp .le 6, 3) := by decide +kernel
theorem dX6_rate_25 : decode cX6_rate 25 = .ok (.bipush (-102), 2) := by decide +kernel
theorem dX6_rate_27 : decode cX6_rate 27 = .ok (.ireturn, 1) := by decide +kernel
theorem dX6_rate_28 : decode cX6_rate 28 = .ok (.aload_n 0, 1) := by decide +kernel
theorem dX6_rate_29 : decode cX6_rate 29 = .ok (.getfield 41, 3) := by decide +kernel
theorem dX6_rate_32 : decode cX6_rate 32 = .ok (.iload_n 1, 1) := by decide +kernel
theorem dX6_rate_33 : decode cX6_rate 33 = .ok (.iaload, 1) := by decide +kernel
theorem dX6_rate_34 : decode cX6_rate 34 = .ok (.istore_n 3, 1) := by decide +kernel
theorem dX6_rate_35 : decode cX6_rate 35 = .ok (.aload_n 0, 1) := by decide +kernel
theorem dX6_rate_36 : decode cX6_rate 36 = .ok (.getfield 41, 3) := by decide +kernel
theorem dX6_rate_39 : decode cX6_rate 39 = .ok (.iload_n 1, 1) := by decide +kernel
theorem dX6_rate_40 : decode cX6_rate 40 = .ok (.iload_n 2, 1) := by decide +kernel
theorem dX6_rate_41 : decode cX6_rate 41 = .ok (.iastore, 1) := by decide +kernel
theorem dX6_rate_42 : decode cX6_rate 42 = .ok (.iload_n 3, 1) := by decide +kernel
theorem dX6_rate_43 : decode cX6_rate 43 = .ok (.ireturn, 1) := by decide +kernel
theorem dX6_days_0 : decode cX6_days 0 = .ok (.iload_n 1, 1) := by decide +kernel
theorem dX6_days_1 : decode cX6_days 1 = .ok (.iconst 1, 1) := by decide +kernel
theorem dX6_days_2 : decode cX6_days 2 = .ok (.if_icmp .lt 22, 3) := by decide +kernel
theorem dX6_days_5 : decode cX6_days 5 = .ok (.iload_n 1, 1) := by decide +kernel
theorem dX6_days_6 : decode cX6_days 6 = .ok (.sipush 1000, 3) := by decide +kernel
theorem dX6_days_9 : decode cX6_days 9 = .ok (.if_icmp .gt 15, 3) := by decide +kernel
theorem dX6_days_12 : decode cX6_days 12 = .ok (.aload_n 0, 1) := by decide +kernel
theorem dX6_days_13 : decode cX6_days 13 = .ok (.getfield 121, 3) := by decide +kernel
theorem dX6_days_16 : decode cX6_days 16 = .ok (.iload_n 1, 1) := by decide +kernel
theorem dX6_days_17 : decode cX6_days 17 = .ok (.iadd, 1) := by decide +kernel
theorem dX6_days_18 : decode cX6_days 18 = .ok (.sipush 10000, 3) := by decide +kernel
theorem dX6_days_21 : decode cX6_days 21 = .ok (.if_icmp .le 6, 3) := by decide +kernel
theorem dX6_days_24 : decode cX6_days 24 = .ok (.bipush (-102), 2) := by decide +kernel
theorem dX6_days_26 : decode cX6_days 26 = .ok (.ireturn, 1) := by decide +kernel
theorem dX6_days_27 : decode cX6_days 27 = .ok (.aload_n 0, 1) := by decide +kernel
theorem dX6_days_28 : decode cX6_days 28 = .ok (.dup, 1) := by decide +kernel
theorem dX6_days_29 : decode cX6_days 29 = .ok (.getfield 121, 3) := by decide +kernel
theorem dX6_days_32 : decode cX6_days 32 = .ok (.iload_n 1, 1) := by decide +kernel
theorem dX6_days_33 : decode cX6_days 33 = .ok (.iadd, 1) := by decide +kernel
theorem dX6_days_34 : decode cX6_days 34 = .ok (.putfield 121, 3) := by decide +kernel
theorem dX6_days_37 : decode cX6_days 37 = .ok (.aload_n 0, 1) := by decide +kernel
theorem dX6_days_38 : decode cX6_days 38 = .ok (.getfield 121, 3) := by decide +kernel
theorem dX6_days_41 : decode cX6_days 41 = .ok (.ireturn, 1) := by decide +kernel
theorem dX6_isDay_0 : decode cX6_isDay 0 = .ok (.iload_n 0, 1) := by decide +kernel
theorem dX6_isDay_1 : decode cX6_isDay 1 = .ok (.ifCond .lt 14, 3) := by decide +kernel
theorem dX6_isDay_4 : decode cX6_isDay 4 = .ok (.iload_n 0, 1) := by decide +kernel
theorem dX6_isDay_5 : decode cX6_isDay 5 = .ok (.sipush 10000, 3) := by decide +kernel
theorem dX6_isDay_8 : decode cX6_isDay 8 = .ok (.if_icmp .gt 7, 3) := by decide +kernel
theorem dX6_isDay_11 : decode cX6_isDay 11 = .ok (.iconst 1, 1) := by decide +kernel
theorem dX6_isDay_12 : decode cX6_isDay 12 = .ok (.goto 4, 3) := by decide +kernel
theorem dX6_isDay_15 : decode cX6_isDay 15 = .ok (.iconst 0, 1) := by decide +kernel
theorem dX6_isDay_16 : decode cX6_isDay 16 = .ok (.ireturn, 1) := by decide +kernel
theorem dX6_line_0 : decode cX6_line 0 = .ok (.aload_n 0, 1) := by decide +kernel
theorem dX6_line_1 : decode cX6_line 1 = .ok (.getfield 12, 3) := by decide +kernel
theorem dX6_line_4 : decode cX6_line 4 = .ok (.iload_n 1, 1) := by decide +kernel
theorem dX6_line_5 : decode cX6_line 5 = .ok (.iload_n 2, 1) := by decide +kernel
theorem dX6_line_6 : decode cX6_line 6 = .ok (.invokevirtual 65, 3) := by decide +kernel
theorem dX6_line_9 : decode cX6_line 9 = .ok (.istore 4, 2) := by decide +kernel
theorem dX6_line_11 : decode cX6_line 11 = .ok (.iload 4, 2) := by decide +kernel
theorem dX6_line_13 : decode cX6_line 13 = .ok (.iconst (-1), 1) := by decide +kernel
theorem dX6_line_14 : decode cX6_line 14 = .ok (.if_icmp .ne 6, 3) := by decide +kernel
theorem dX6_line_17 : decode cX6_line 17 = .ok (.bipush (-101), 2) := by decide +kernel
theorem dX6_line_19 : decode cX6_line 19 = .ok (.ireturn, 1) := by decide +kernel
theorem dX6_line_20 : decode cX6_line 20 = .ok (.aload_n 0, 1) := by decide +kernel
theorem dX6_line_21 : decode cX6_line 21 = .ok (.invokevirtual 124, 3) := by decide +kernel
theorem dX6_line_24 : decode cX6_line 24 = .ok (.ifnonnull 15, 3) := by decide +kernel
theorem dX6_line_27 : decode cX6_line 27 = .ok (.aload_n 0, 1) := by decide +kernel
theorem dX6_line_28 : decode cX6_line 28 = .ok (.getfield 12, 3) := by decide +kernel
theorem dX6_line_31 : decode cX6_line 31 = .ok (.iload 4, 2) := by decide +kernel
theorem dX6_line_33 : decode cX6_line 33 = .ok (.invokevirtual 128, 3) := by decide +kernel
theorem dX6_line_36 : decode cX6_line 36 = .ok (.ifCond .eq 6, 3) := by decide +kernel
theorem dX6_line_39 : decode cX6_line 39 = .ok (.bipush (-103), 2) := by decide +kernel
theorem dX6_line_41 : decode cX6_line 41 = .ok (.ireturn, 1) := by decide +kernel
theorem dX6_line_42 : decode cX6_line 42 = .ok (.aload_n 0, 1) := by decide +kernel
theorem dX6_line_43 : decode cX6_line 43 = .ok (.getfield 12, 3) := by decide +kernel
theorem dX6_line_46 : decode cX6_line 46 = .ok (.getfield 131, 3) := by decide +kernel
theorem dX6_line_49 : decode cX6_line 49 = .ok (.iload 4, 2) := by decide +kernel
theorem dX6_line_51 : decode cX6_line 51 = .ok (.baload, 1) := by decide +kernel
theorem dX6_line_52 : decode cX6_line 52 = .ok (.ifCond .eq 7, 3) := by decide +kernel
theorem dX6_line_55 : decode cX6_line 55 = .ok (.iconst 1, 1) := by decide +kernel
theorem dX6_line_56 : decode cX6_line 56 = .ok (.goto 4, 3) := by decide +kernel
theorem dX6_line_59 : decode cX6_line 59 = .ok (.iconst 0, 1) := by decide +kernel
theorem dX6_line_60 : decode cX6_line 60 = .ok (.istore 5, 2) := by decide +kernel
theorem dX6_line_62 : decode cX6_line 62 = .ok (.aload_n 0, 1) := by decide +kernel
theorem dX6_line_63 : decode cX6_line 63 = .ok (.getfield 12, 3) := by decide +kernel
theorem dX6_line_66 : decode cX6_line 66 = .ok (.getfield 131, 3) := by decide +kernel
theorem dX6_line_69 : decode cX6_line 69 = .ok (.iload 4, 2) := by decide +kernel
theorem dX6_line_71 : decode cX6_line 71 = .ok (.iload_n 3, 1) := by decide +kernel
theorem dX6_line_72 : decode cX6_line 72 = .ok (.bastore, 1) := by decide +kernel
theorem dX6_line_73 : decode cX6_line 73 = .ok (.iload 5, 2) := by decide +kernel
theorem dX6_line_75 : decode cX6_line 75 = .ok (.ireturn, 1) := by decide +kernel
theorem dX6_make_0 : decode cX6_make 0 = .ok (.aload_n 0, 1) := by decide +kernel
theorem dX6_make_1 : decode cX6_make 1 = .ok (.invokevirtual 124, 3) := by decide +kernel
theorem dX6_make_4 : decode cX6_make 4 = .ok (.ifnull 6, 3) := by decide +kernel
theorem dX6_make_7 : decode cX6_make 7 = .ok (.bipush (-103), 2) := by decide +kernel
theorem dX6_make_9 : decode cX6_make 9 = .ok (.ireturn, 1) := by decide +kernel
theorem dX6_make_10 : decode cX6_make 10 = .ok (.aload_n 0, 1) := by decide +kernel
theorem dX6_make_11 : decode cX6_make 11 = .ok (.invokevirtual 134, 3) := by decide +kernel
theorem dX6_make_14 : decode cX6_make 14 = .ok (.ifCond .ne 6, 3) := by decide +kernel
theorem dX6_make_17 : decode cX6_make 17 = .ok (.bipush (-102), 2) := by decide +kernel
theorem dX6_make_19 : decode cX6_make 19 = .ok (.ireturn, 1) := by decide +kernel
theorem dX6_make_20 : decode cX6_make 20 = .ok (.aload_n 0, 1) := by decide +kernel
theorem dX6_make_21 : decode cX6_make 21 = .ok (.getfield 100, 3) := by decide +kernel
theorem dX6_make_24 : decode cX6_make 24 = .ok (.bipush 60, 2) := by decide +kernel
theorem dX6_make_26 : decode cX6_make 26 = .ok (.if_icmp .lt 6, 3) := by decide +kernel
theorem dX6_make_29 : decode cX6_make 29 = .ok (.bipush (-104), 2) := by decide +kernel
theorem dX6_make_31 : decode cX6_make 31 = .ok (.ireturn, 1) := by decide +kernel
theorem dX6_make_32 : decode cX6_make 32 = .ok (.aload_n 0, 1) := by decide +kernel
theorem dX6_make_33 : decode cX6_make 33 = .ok (.getfield 46, 3) := by decide +kernel
theorem dX6_make_36 : decode cX6_make 36 = .ok (.aload_n 0, 1) := by decide +kernel
theorem dX6_make_37 : decode cX6_make 37 = .ok (.getfield 100, 3) := by decide +kernel
theorem dX6_make_40 : decode cX6_make 40 = .ok (.aaload, 1) := by decide +kernel
theorem dX6_make_41 : decode cX6_make 41 = .ok (.astore_n 1, 1) := by decide +kernel
theorem dX6_make_42 : decode cX6_make 42 = .ok (.aload_n 1, 1) := by decide +kernel
theorem dX6_make_43 : decode cX6_make 43 = .ok (.ifnonnull 21, 3) := by decide +kernel
theorem dX6_make_46 : decode cX6_make 46 = .ok (.new 44, 3) := by decide +kernel
theorem dX6_make_49 : decode cX6_make 49 = .ok (.dup, 1) := by decide +kernel
theorem dX6_make_50 : decode cX6_make 50 = .ok (.invokespecial 137, 3) := by decide +kernel
theorem dX6_make_53 : decode cX6_make 53 = .ok (.astore_n 1, 1) := by decide +kernel
theorem dX6_make_54 : decode cX6_make 54 = .ok (.aload_n 0, 1) := by decide +kernel
theorem dX6_make_55 : decode cX6_make 55 = .ok (.getfield 46, 3) := by decide +kernel
theorem dX6_make_58 : decode cX6_make 58 = .ok (.aload_n 0, 1) := by decide +kernel
theorem dX6_make_59 : decode cX6_make 59 = .ok (.getfield 100, 3) := by decide +kernel
theorem dX6_make_62 : decode cX6_make 62 = .ok (.aload_n 1, 1) := by decide +kernel
theorem dX6_make_63 : decode cX6_make 63 = .ok (.aastore, 1) := by decide +kernel
theorem dX6_make_64 : decode cX6_make 64 = .ok (.aload_n 0, 1) := by decide +kernel
theorem dX6_make_65 : decode cX6_make 65 = .ok (.dup, 1) := by decide +kernel
theorem dX6_make_66 : decode cX6_make 66 = .ok (.getfield 100, 3) := by decide +kernel
theorem dX6_make_69 : decode cX6_make 69 = .ok (.iconst 1, 1) := by decide +kernel
theorem dX6_make_70 : decode cX6_make 70 = .ok (.iadd, 1) := by decide +kernel
theorem dX6_make_71 : decode cX6_make 71 = .ok (.putfield 100, 3) := by decide +kernel
theorem dX6_make_74 : decode cX6_make 74 = .ok (.aload_n 1, 1) := by decide +kernel
theorem dX6_make_75 : decode cX6_make 75 = .ok (.aload_n 0, 1) := by decide +kernel
theorem dX6_make_76 : decode cX6_make 76 = .ok (.getfield 121, 3) := by decide +kernel
theorem dX6_make_79 : decode cX6_make 79 = .ok (.aload_n 0, 1) := by decide +kernel
theorem dX6_make_80 : decode cX6_make 80 = .ok (.getfield 41, 3) := by decide +kernel
theorem dX6_make_83 : decode cX6_make 83 = .ok (.iconst 4, 1) := by decide +kernel
theorem dX6_make_84 : decode cX6_make 84 = .ok (.iaload, 1) := by decide +kernel
theorem dX6_make_85 : decode cX6_make 85 = .ok (.invokevirtual 138, 3) := by decide +kernel
theorem dX6_make_88 : decode cX6_make 88 = .ok (.iconst 0, 1) := by decide +kernel
theorem dX6_make_89 : decode cX6_make 89 = .ok (.istore_n 2, 1) := by decide +kernel
theorem dX6_make_90 : decode cX6_make 90 = .ok (.iload_n 2, 1) := by decide +kernel
theorem dX6_make_91 : decode cX6_make 91 = .ok (.aload_n 0, 1) := by decide +kernel
theorem dX6_make_92 : decode cX6_make 92 = .ok (.getfield 58, 3) := by decide +kernel
theorem dX6_make_95 : decode cX6_make 95 = .ok (.if_icmp .ge 28, 3) := by decide +kernel
theorem dX6_make_98 : decode cX6_make 98 = .ok (.aload_n 0, 1) := by decide +kernel
theorem dX6_make_99 : decode cX6_make 99 = .ok (.getfield 12, 3) := by decide +kernel
theorem dX6_make_102 : decode cX6_make 102 = .ok (.iload_n 2, 1) := by decide +kernel
theorem dX6_make_103 : decode cX6_make 103 = .ok (.invokevirtual 141, 3) := by decide +kernel
theorem dX6_make_106 : decode cX6_make 106 = .ok (.istore_n 3, 1) := by decide +kernel
theorem dX6_make_107 : decode cX6_make 107 = .ok (.iload_n 3, 1) := by decide +kernel
theorem dX6_make_108 : decode cX6_make 108 = .ok (.ifCond .le 9, 3) := by decide +kernel
theorem dX6_make_111 : decode cX6_make 111 = .ok (.aload_n 1, 1) := by decide +kernel
theorem dX6_make_112 : decode cX6_make 112 = .ok (.iload_n 2, 1) := by decide +kernel
theorem dX6_make_113 : decode cX6_make 113 = .ok (.iload_n 3, 1) := by decide +kernel
theorem dX6_make_114 : decode cX6_make 114 = .ok (.invokevirtual 144, 3) := by decide +kernel
theorem dX6_make_117 : decode cX6_make 117 = .ok (.iinc 2 1, 3) := by decide +kernel
theorem dX6_make_120 : decode cX6_make 120 = .ok (.goto (-30), 3) := by decide +kernel
theorem dX6_make_123 : decode cX6_make 123 = .ok (.aload_n 1, 1) := by decide +kernel
theorem dX6_make_124 : decode cX6_make 124 = .ok (.getfield 147, 3) := by decide +kernel
theorem dX6_make_127 : decode cX6_make 127 = .ok (.ireturn, 1) := by decide +kernel
theorem dX6_object_0 : decode cX6_object 0 = .ok (.aload_n 0, 1) := by decide +kernel
theorem dX6_object_1 : decode cX6_object 1 = .ok (.invokevirtual 124, 3) := by decide +kernel
theorem dX6_object_4 : decode cX6_object 4 = .ok (.astore_n 2, 1) := by decide +kernel
theorem dX6_object_5 : decode cX6_object 5 = .ok (.aload_n 2, 1) := by decide +kernel
theorem dX6_object_6 : decode cX6_object 6 = .ok (.ifnonnull 6, 3) := by decide +kernel
theorem dX6_object_9 : decode cX6_object 9 = .ok (.bipush (-103), 2) := by decide +kernel
theorem dX6_object_11 : decode cX6_object 11 = .ok (.ireturn, 1) := by decide +kernel
theorem dX6_object_12 : decode cX6_object 12 = .ok (.aload_n 2, 1) := by decide +kernel
theorem dX6_object_13 : decode cX6_object 13 = .ok (.iload_n 1, 1) := by decide +kernel
theorem dX6_object_14 : decode cX6_object 14 = .ok (.invokevirtual 150, 3) := by decide +kernel
theorem dX6_object_17 : decode cX6_object 17 = .ok (.astore_n 3, 1) := by decide +kernel
theorem dX6_object_18 : decode cX6_object 18 = .ok (.aload_n 3, 1) := by decide +kernel
theorem dX6_object_19 : decode cX6_object 19 = .ok (.ifnonnull 6, 3) := by decide +kernel
theorem dX6_object_22 : decode cX6_object 22 = .ok (.bipush (-101), 2) := by decide +kernel
theorem dX6_object_24 : decode cX6_object 24 = .ok (.ireturn, 1) := by decide +kernel
theorem dX6_object_25 : decode cX6_object 25 = .ok (.aload_n 3, 1) := by decide +kernel
theorem dX6_object_26 : decode cX6_object 26 = .ok (.getfield 154, 3) := by decide +kernel
theorem dX6_object_29 : decode cX6_object 29 = .ok (.ifCond .ne 14, 3) := by decide +kernel
theorem dX6_object_32 : decode cX6_object 32 = .ok (.aload_n 0, 1) := by decide +kernel
theorem dX6_object_33 : decode cX6_object 33 = .ok (.getfield 121, 3) := by decide +kernel
theorem dX6_object_36 : decode cX6_object 36 = .ok (.aload_n 2, 1) := by decide +kernel
theorem dX6_object_37 : decode cX6_object 37 = .ok (.invokevirtual 159, 3) := by decide +kernel
theorem dX6_object_40 : decode cX6_object 40 = .ok (.if_icmp .le 6, 3) := by decide +kernel
theorem dX6_object_43 : decode cX6_object 43 = .ok (.bipush (-103), 2) := by decide +kernel
theorem dX6_object_45 : decode cX6_object 45 = .ok (.ireturn, 1) := by decide +kernel
theorem dX6_object_46 : decode cX6_object 46 = .ok (.aload_n 3, 1) := by decide +kernel
theorem dX6_object_47 : decode cX6_object 47 = .ok (.iconst 1, 1) := by decide +kernel
theorem dX6_object_48 : decode cX6_object 48 = .ok (.putfield 154, 3) := by decide +kernel
theorem dX6_object_51 : decode cX6_object 51 = .ok (.iconst 1, 1) := by decide +kernel
theorem dX6_object_52 : decode cX6_object 52 = .ok (.ireturn, 1) := by decide +kernel
theorem dX6_hear_0 : decode cX6_hear 0 = .ok (.aload_n 0, 1) := by decide +kernel
theorem dX6_hear_1 : decode cX6_hear 1 = .ok (.invokevirtual 124, 3) := by decide +kernel
theorem dX6_hear_4 : decode cX6_hear 4 = .ok (.astore_n 3, 1) := by decide +kernel
theorem dX6_hear_5 : decode cX6_hear 5 = .ok (.aload_n 3, 1) := by decide +kernel
theorem dX6_hear_6 : decode cX6_hear 6 = .ok (.ifnonnull 6, 3) := by decide +kernel
theorem dX6_hear_9 : decode cX6_hear 9 = .ok (.bipush (-103), 2) := by decide +kernel
theorem dX6_hear_11 : decode cX6_hear 11 = .ok (.ireturn, 1) := by decide +kernel
theorem dX6_hear_12 : decode cX6_hear 12 = .ok (.aload_n 3, 1) := by decide +kernel
theorem dX6_hear_13 : decode cX6_hear 13 = .ok (.iload_n 1, 1) := by decide +kernel
theorem dX6_hear_14 : decode cX6_hear 14 = .ok (.invokevirtual 150, 3) := by decide +kernel
theorem dX6_hear_17 : decode cX6_hear 17 = .ok (.astore 4, 2) := by decide +kernel
theorem dX6_hear_19 : decode cX6_hear 19 = .ok (.aload 4, 2) := by decide +kernel
theorem dX6_hear_21 : decode cX6_hear 21 = .ok (.ifnonnull 6, 3) := by decide +kernel
theorem dX6_hear_24 : decode cX6_hear 24 = .ok (.bipush (-101), 2) := by decide +kernel
theorem dX6_hear_26 : decode cX6_hear 26 = .ok (.ireturn, 1) := by decide +kernel
theorem dX6_hear_27 : decode cX6_hear 27 = .ok (.aload 4, 2) := by decide +kernel
theorem dX6_hear_29 : decode cX6_hear 29 = .ok (.getfield 154, 3) := by decide +kernel
theorem dX6_hear_32 : decode cX6_hear 32 = .ok (.iconst 1, 1) := by decide +kernel
theorem dX6_hear_33 : decode cX6_hear 33 = .ok (.if_icmp .eq 6, 3) := by decide +kernel
theorem dX6_hear_36 : decode cX6_hear 36 = .ok (.bipush (-103), 2) := by decide +kernel
theorem dX6_hear_38 : decode cX6_hear 38 = .ok (.ireturn, 1) := by decide +kernel
theorem dX6_hear_39 : decode cX6_hear 39 = .ok (.aload 4, 2) := by decide +kernel
theorem dX6_hear_41 : decode cX6_hear 41 = .ok (.iload_n 2, 1) := by decide +kernel
theorem dX6_hear_42 : decode cX6_hear 42 = .ok (.ifCond .eq 7, 3) := by decide +kernel
theorem dX6_hear_45 : decode cX6_hear 45 = .ok (.iconst 3, 1) := by decide +kernel
theorem dX6_hear_46 : decode cX6_hear 46 = .ok (.goto 4, 3) := by decide +kernel
theorem dX6_hear_49 : decode cX6_hear 49 = .ok (.iconst 2, 1) := by decide +kernel
theorem dX6_hear_50 : decode cX6_hear 50 = .ok (.putfield 154, 3) := by decide +kernel
theorem dX6_hear_53 : decode cX6_hear 53 = .ok (.aload_n 0, 1) := by decide +kernel
theorem dX6_hear_54 : decode cX6_hear 54 = .ok (.aload_n 3, 1) := by decide +kernel
theorem dX6_hear_55 : decode cX6_hear 55 = .ok (.invokevirtual 163, 3) := by decide +kernel
theorem dX6_hear_58 : decode cX6_hear 58 = .ok (.iconst 1, 1) := by decide +kernel
theorem dX6_hear_59 : decode cX6_hear 59 = .ok (.ireturn, 1) := by decide +kernel
theorem dX6_enter_0 : decode cX6_enter 0 = .ok (.aload_n 0, 1) := by decide +kernel
theorem dX6_enter_1 : decode cX6_enter 1 = .ok (.invokevirtual 124, 3) := by decide +kernel
theorem dX6_enter_4 : decode cX6_enter 4 = .ok (.astore_n 1, 1) := by decide +kernel
theorem dX6_enter_5 : decode cX6_enter 5 = .ok (.aload_n 1, 1) := by decide +kernel
theorem dX6_enter_6 : decode cX6_enter 6 = .ok (.ifnull 21, 3) := by decide +kernel
theorem dX6_enter_9 : decode cX6_enter 9 = .ok (.aload_n 0, 1) := by decide +kernel
theorem dX6_enter_10 : decode cX6_enter 10 = .ok (.getfield 121, 3) := by decide +kernel
theorem dX6_enter_13 : decode cX6_enter 13 = .ok (.aload_n 1, 1) := by decide +kernel
theorem dX6_enter_14 : decode cX6_enter 14 = .ok (.invokevirtual 159, 3) := by decide +kernel
theorem dX6_enter_17 : decode cX6_enter 17 = .ok (.if_icmp .lt 10, 3) := by decide +kernel
theorem dX6_enter_20 : decode cX6_enter 20 = .ok (.aload_n 1, 1) := by decide +kernel
theorem dX6_enter_21 : decode cX6_enter 21 = .ok (.invokevirtual 167, 3) := by decide +kernel
theorem dX6_enter_24 : decode cX6_enter 24 = .ok (.ifCond .ne 6, 3) := by decide +kernel
theorem dX6_enter_27 : decode cX6_enter 27 = .ok (.bipush (-103), 2) := by decide +kernel
theorem dX6_enter_29 : decode cX6_enter 29 = .ok (.ireturn, 1) := by decide +kernel
theorem dX6_enter_30 : decode cX6_enter 30 = .ok (.iconst 0, 1) := by decide +kernel
theorem dX6_enter_31 : decode cX6_enter 31 = .ok (.istore_n 2, 1) := by decide +kernel
theorem dX6_enter_32 : decode cX6_enter 32 = .ok (.iload_n 2, 1) := by decide +kernel
theorem dX6_enter_33 : decode cX6_enter 33 = .ok (.iconst 4, 1) := by decide +kernel
theorem dX6_enter_34 : decode cX6_enter 34 = .ok (.if_icmp .ge 28, 3) := by decide +kernel
theorem dX6_enter_37 : decode cX6_enter 37 = .ok (.aload_n 0, 1) := by decide +kernel
theorem dX6_enter_38 : decode cX6_enter 38 = .ok (.getfield 37, 3) := by decide +kernel
theorem dX6_enter_41 : decode cX6_enter 41 = .ok (.iload_n 2, 1) := by decide +kernel
theorem dX6_enter_42 : decode cX6_enter 42 = .ok (.aload_n 0, 1) := by decide +kernel
theorem dX6_enter_43 : decode cX6_enter 43 = .ok (.getfield 32, 3) := by decide +kernel
theorem dX6_enter_46 : decode cX6_enter 46 = .ok (.iload_n 2, 1) := by decide +kernel
theorem dX6_enter_47 : decode cX6_enter 47 = .ok (.aaload, 1) := by decide +kernel
theorem dX6_enter_48 : decode cX6_enter 48 = .ok (.aload_n 0, 1) := by decide +kernel
theorem dX6_enter_49 : decode cX6_enter 49 = .ok (.getfield 121, 3) := by decide +kernel
theorem dX6_enter_52 : decode cX6_enter 52 = .ok (.invokevirtual 114, 3) := by decide +kernel
theorem dX6_enter_55 : decode cX6_enter 55 = .ok (.iastore, 1) := by decide +kernel
theorem dX6_enter_56 : decode cX6_enter 56 = .ok (.iinc 2 1, 3) := by decide +kernel
theorem dX6_enter_59 : decode cX6_enter 59 = .ok (.goto (-27), 3) := by decide +kernel
theorem dX6_enter_62 : decode cX6_enter 62 = .ok (.aload_n 0, 1) := by decide +kernel
theorem dX6_enter_63 : decode cX6_enter 63 = .ok (.aload_n 1, 1) := by decide +kernel
theorem dX6_enter_64 : decode cX6_enter 64 = .ok (.invokevirtual 170, 3) := by decide +kernel
theorem dX6_enter_67 : decode cX6_enter 67 = .ok (.aload_n 0, 1) := by decide +kernel
theorem dX6_enter_68 : decode cX6_enter 68 = .ok (.aload_n 1, 1) := by decide +kernel
theorem dX6_enter_69 : decode cX6_enter 69 = .ok (.invokevirtual 173, 3) := by decide +kernel
theorem dX6_enter_72 : decode cX6_enter 72 = .ok (.istore_n 2, 1) := by decide +kernel
theorem dX6_enter_73 : decode cX6_enter 73 = .ok (.aload_n 0, 1) := by decide +kernel
theorem dX6_enter_74 : decode cX6_enter 74 = .ok (.aload_n 1, 1) := by decide +kernel
theorem dX6_enter_75 : decode cX6_enter 75 = .ok (.invokevirtual 163, 3) := by decide +kernel
theorem dX6_enter_78 : decode cX6_enter 78 = .ok (.iload_n 2, 1) := by decide +kernel
theorem dX6_enter_79 : decode cX6_enter 79 = .ok (.ireturn, 1) := by decide +kernel
theorem dX6_undo_0 : decode cX6_undo 0 = .ok (.aload_n 0, 1) := by decide +kernel
theorem dX6_undo_1 : decode cX6_undo 1 = .ok (.invokevirtual 177, 3) := by decide +kernel
theorem dX6_undo_4 : decode cX6_undo 4 = .ok (.astore_n 1, 1) := by decide +kernel
theorem dX6_undo_5 : decode cX6_undo 5 = .ok (.aload_n 1, 1) := by decide +kernel
theorem dX6_undo_6 : decode cX6_undo 6 = .ok (.ifnull 10, 3) := by decide +kernel
theorem dX6_undo_9 : decode cX6_undo 9 = .ok (.aload_n 1, 1) := by decide +kernel
theorem dX6_undo_10 : decode cX6_undo 10 = .ok (.invokevirtual 180, 3) := by decide +kernel
theorem dX6_undo_13 : decode cX6_undo 13 = .ok (.ifCond .ne 7, 3) := by decide +kernel
theorem dX6_undo_16 : decode cX6_undo 16 = .ok (.ldc2_w 183, 3) := by decide +kernel
theorem dX6_undo_19 : decode cX6_undo 19 = .ok (.lreturn, 1) := by decide +kernel
theorem dX6_undo_20 : decode cX6_undo 20 = .ok (.lconst 0, 1) := by decide +kernel
theorem dX6_undo_21 : decode cX6_undo 21 = .ok (.lstore_n 2, 1) := by decide +kernel
theorem dX6_undo_22 : decode cX6_undo 22 = .ok (.iconst 0, 1) := by decide +kernel
theorem dX6_undo_23 : decode cX6_undo 23 = .ok (.istore 4, 2) := by decide +kernel
theorem dX6_undo_25 : decode cX6_undo 25 = .ok (.iload 4, 2) := by decide +kernel
theorem dX6_undo_27 : decode cX6_undo 27 = .ok (.aload_n 1, 1) := by decide +kernel
theorem dX6_undo_28 : decode cX6_undo 28 = .ok (.getfield 147, 3) := by decide +kernel
theorem dX6_undo_31 : decode cX6_undo 31 = .ok (.if_icmp .ge 42, 3) := by decide +kernel
theorem dX6_undo_34 : decode cX6_undo 34 = .ok (.aload_n 1, 1) := by decide +kernel
theorem dX6_undo_35 : decode cX6_undo 35 = .ok (.iload 4, 2) := by decide +kernel
theorem dX6_undo_37 : decode cX6_undo 37 = .ok (.invokevirtual 150, 3) := by decide +kernel
theorem dX6_undo_40 : decode cX6_undo 40 = .ok (.astore 5, 2) := by decide +kernel
theorem dX6_undo_42 : decode cX6_undo 42 = .ok (.aload 5, 2) := by decide +kernel
theorem dX6_undo_44 : decode cX6_undo 44 = .ok (.ifnull 23, 3) := by decide +kernel
theorem dX6_undo_47 : decode cX6_undo 47 = .ok (.lload_n 2, 1) := by decide +kernel
theorem dX6_undo_48 : decode cX6_undo 48 = .ok (.aload 5, 2) := by decide +kernel
theorem dX6_undo_50 : decode cX6_undo 50 = .ok (.getfield 185, 3) := by decide +kernel
theorem dX6_undo_53 : decode cX6_undo 53 = .ok (.aload 5, 2) := by decide +kernel
theorem dX6_undo_55 : decode cX6_undo 55 = .ok (.getfield 189, 3) := by decide +kernel
theorem dX6_undo_58 : decode cX6_undo 58 = .ok (.ladd, 1) := by decide +kernel
theorem dX6_undo_59 : decode cX6_undo 59 = .ok (.ladd, 1) := by decide +kernel
theorem dX6_undo_60 : decode cX6_undo 60 = .ok (.lstore_n 2, 1) := by decide +kernel
theorem dX6_undo_61 : decode cX6_undo 61 = .ok (.aload_n 0, 1) := by decide +kernel
theorem dX6_undo_62 : decode cX6_undo 62 = .ok (.aload 5, 2) := by decide +kernel
theorem dX6_undo_64 : decode cX6_undo 64 = .ok (.invokevirtual 192, 3) := by decide +kernel
theorem dX6_undo_67 : decode cX6_undo 67 = .ok (.iinc 4 1, 3) := by decide +kernel
theorem dX6_undo_70 : decode cX6_undo 70 = .ok (.goto (-45), 3) := by decide +kernel
theorem dX6_undo_73 : decode cX6_undo 73 = .ok (.aload_n 0, 1) := by decide +kernel
theorem dX6_undo_74 : decode cX6_undo 74 = .ok (.dup, 1) := by decide +kernel
theorem dX6_undo_75 : decode cX6_undo 75 = .ok (.getfield 100, 3) := by decide +kernel
theorem dX6_undo_78 : decode cX6_undo 78 = .ok (.iconst 1, 1) := by decide +kernel
theorem dX6_undo_79 : decode cX6_undo 79 = .ok (.isub, 1) := by decide +kernel
theorem dX6_undo_80 : decode cX6_undo 80 = .ok (.putfield 100, 3) := by decide +kernel
theorem dX6_undo_83 : decode cX6_undo 83 = .ok (.aload_n 0, 1) := by decide +kernel
theorem dX6_undo_84 : decode cX6_undo 84 = .ok (.dup, 1) := by decide +kernel
theorem dX6_undo_85 : decode cX6_undo 85 = .ok (.getfield 103, 3) := by decide +kernel
theorem dX6_undo_88 : decode cX6_undo 88 = .ok (.iconst 1, 1) := by decide +kernel
theorem dX6_undo_89 : decode cX6_undo 89 = .ok (.iadd, 1) := by decide +kernel
theorem dX6_undo_90 : decode cX6_undo 90 = .ok (.putfield 103, 3) := by decide +kernel
theorem dX6_undo_93 : decode cX6_undo 93 = .ok (.aload_n 0, 1) := by decide +kernel
theorem dX6_undo_94 : decode cX6_undo 94 = .ok (.getfield 12, 3) := by decide +kernel
theorem dX6_undo_97 : decode cX6_undo 97 = .ok (.aload_n 0, 1) := by decide +kernel
theorem dX6_undo_98 : decode cX6_undo 98 = .ok (.getfield 100, 3) := by decide +kernel
theorem dX6_undo_101 : decode cX6_undo 101 = .ok (.invokevirtual 196, 3) := by decide +kernel
theorem dX6_undo_104 : decode cX6_undo 104 = .ok (.lload_n 2, 1) := by decide +kernel
theorem dX6_undo_105 : decode cX6_undo 105 = .ok (.lreturn, 1) := by decide +kernel
theorem dX6_orderAt_0 : decode cX6_orderAt 0 = .ok (.iload_n 1, 1) := by decide +kernel
theorem dX6_orderAt_1 : decode cX6_orderAt 1 = .ok (.ifCond .lt 26, 3) := by decide +kernel
theorem dX6_orderAt_4 : decode cX6_orderAt 4 = .ok (.iload_n 1, 1) := by decide +kernel
theorem dX6_orderAt_5 : decode cX6_orderAt 5 = .ok (.aload_n 0, 1) := by decide +kernel
theorem dX6_orderAt_6 : decode cX6_orderAt 6 = .ok (.getfield 100, 3) := by decide +kernel
theorem dX6_orderAt_9 : decode cX6_orderAt 9 = .ok (.if_icmp .ge 18, 3) := by decide +kernel
theorem dX6_orderAt_12 : decode cX6_orderAt 12 = .ok (.iload_n 1, 1) := by decide +kernel
theorem dX6_orderAt_13 : decode cX6_orderAt 13 = .ok (.bipush 60, 2) := by decide +kernel
theorem dX6_orderAt_15 : decode cX6_orderAt 15 = .ok (.if_icmp .ge 12, 3) := by decide +kernel
theorem dX6_orderAt_18 : decode cX6_orderAt 18 = .ok (.aload_n 0, 1) := by decide +kernel
theorem dX6_orderAt_19 : decode cX6_orderAt 19 = .ok (.getfield 46, 3) := by decide +kernel
theorem dX6_orderAt_22 : decode cX6_orderAt 22 = .ok (.iload_n 1, 1) := by decide +kernel
theorem dX6_orderAt_23 : decode cX6_orderAt 23 = .ok (.aaload, 1) := by decide +kernel
theorem dX6_orderAt_24 : decode cX6_orderAt 24 = .ok (.goto 4, 3) := by decide +kernel
theorem dX6_orderAt_27 : decode cX6_orderAt 27 = .ok (.aconst_null, 1) := by decide +kernel
theorem dX6_orderAt_28 : decode cX6_orderAt 28 = .ok (.areturn, 1) := by decide +kernel
theorem dX6_latestOrder_0 : decode cX6_latestOrder 0 = .ok (.aload_n 0, 1) := by decide +kernel
theorem dX6_latestOrder_1 : decode cX6_latestOrder 1 = .ok (.aload_n 0, 1) := by decide +kernel
theorem dX6_latestOrder_2 : decode cX6_latestOrder 2 = .ok (.getfield 100, 3) := by decide +kernel
theorem dX6_latestOrder_5 : decode cX6_latestOrder 5 = .ok (.iconst 1, 1) := by decide +kernel
theorem dX6_latestOrder_6 : decode cX6_latestOrder 6 = .ok (.isub, 1) := by decide +kernel
theorem dX6_latestOrder_7 : decode cX6_latestOrder 7 = .ok (.invokevirtual 199, 3) := by decide +kernel
theorem dX6_latestOrder_10 : decode cX6_latestOrder 10 = .ok (.areturn, 1) := by decide +kernel
theorem dX6_openOrder_0 : decode cX6_openOrder 0 = .ok (.aload_n 0, 1) := by decide +kernel
theorem dX6_openOrder_1 : decode cX6_openOrder 1 = .ok (.invokevirtual 177, 3) := by decide +kernel
theorem dX6_openOrder_4 : decode cX6_openOrder 4 = .ok (.astore_n 1, 1) := by decide +kernel
theorem dX6_openOrder_5 : decode cX6_openOrder 5 = .ok (.aload_n 1, 1) := by decide +kernel
theorem dX6_openOrder_6 : decode cX6_openOrder 6 = .ok (.ifnull 10, 3) := by decide +kernel
theorem dX6_openOrder_9 : decode cX6_openOrder 9 = .ok (.aload_n 1, 1) := by decide +kernel
theorem dX6_openOrder_10 : decode cX6_openOrder 10 = .ok (.invokevirtual 180, 3) := by decide +kernel
theorem dX6_openOrder_13 : decode cX6_openOrder 13 = .ok (.ifCond .eq 7, 3) := by decide +kernel
theorem dX6_openOrder_16 : decode cX6_openOrder 16 = .ok (.aconst_null, 1) := by decide +kernel
theorem dX6_openOrder_17 : decode cX6_openOrder 17 = .ok (.goto 4, 3) := by decide +kernel
theorem dX6_openOrder_20 : decode cX6_openOrder 20 = .ok (.aload_n 1, 1) := by decide +kernel
theorem dX6_openOrder_21 : decode cX6_openOrder 21 = .ok (.areturn, 1) := by decide +kernel
theorem dX6_caseOf_0 : decode cX6_caseOf 0 = .ok (.aload_n 0, 1) := by decide +kernel
theorem dX6_caseOf_1 : decode cX6_caseOf 1 = .ok (.iload_n 1, 1) := by decide +kernel
theorem dX6_caseOf_2 : decode cX6_caseOf 2 = .ok (.invokevirtual 199, 3) := by decide +kernel
theorem dX6_caseOf_5 : decode cX6_caseOf 5 = .ok (.astore_n 3, 1) := by decide +kernel
theorem dX6_caseOf_6 : decode cX6_caseOf 6 = .ok (.aload_n 3, 1) := by decide +kernel
theorem dX6_caseOf_7 : decode cX6_caseOf 7 = .ok (.ifnonnull 7, 3) := by decide +kernel
theorem dX6_caseOf_10 : decode cX6_caseOf 10 = .ok (.aconst_null, 1) := by decide +kernel
theorem dX6_caseOf_11 : decode cX6_caseOf 11 = .ok (.goto 8, 3) := by decide +kernel
theorem dX6_caseOf_14 : decode cX6_caseOf 14 = .ok (.aload_n 3, 1) := by decide +kernel
theorem dX6_caseOf_15 : decode cX6_caseOf 15 = .ok (.iload_n 2, 1) := by decide +kernel
theorem dX6_caseOf_16 : decode cX6_caseOf 16 = .ok (.invokevirtual 150, 3) := by decide +kernel
theorem dX6_caseOf_19 : decode cX6_caseOf 19 = .ok (.areturn, 1) := by decide +kernel
theorem dX6_touchesField_0 : decode cX6_touchesField 0 = .ok (.iconst 0, 1) := by decide +kernel
theorem dX6_touchesField_1 : decode cX6_touchesField 1 = .ok (.istore_n 1, 1) := by decide +kernel
theorem dX6_touchesField_2 : decode cX6_touchesField 2 = .ok (.iload_n 1, 1) := by decide +kernel
theorem dX6_touchesField_3 : decode cX6_touchesField 3 = .ok (.aload_n 0, 1) := by decide +kernel
theorem dX6_touchesField_4 : decode cX6_touchesField 4 = .ok (.getfield 58, 3) := by decide +kernel
theorem dX6_touchesField_7 : decode cX6_touchesField 7 = .ok (.if_icmp .ge 22, 3) := by decide +kernel
theorem dX6_touchesField_10 : decode cX6_touchesField 10 = .ok (.aload_n 0, 1) := by decide +kernel
theorem dX6_touchesField_11 : decode cX6_touchesField 11 = .ok (.getfield 12, 3) := by decide +kernel
theorem dX6_touchesField_14 : decode cX6_touchesField 14 = .ok (.iload_n 1, 1) := by decide +kernel
theorem dX6_touchesField_15 : decode cX6_touchesField 15 = .ok (.invokevirtual 141, 3) := by decide +kernel
theorem dX6_touchesField_18 : decode cX6_touchesField 18 = .ok (.ifCond .le 5, 3) := by decide +kernel
theorem dX6_touchesField_21 : decode cX6_touchesField 21 = .ok (.iconst 1, 1) := by decide +kernel
theorem dX6_touchesField_22 : decode cX6_touchesField 22 = .ok (.ireturn, 1) := by decide +kernel
theorem dX6_touchesField_23 : decode cX6_touchesField 23 = .ok (.iinc 1 1, 3) := by decide +kernel
theorem dX6_touchesField_26 : decode cX6_touchesField 26 = .ok (.goto (-24), 3) := by decide +kernel
theorem dX6_touchesField_29 : decode cX6_touchesField 29 = .ok (.iconst 0, 1) := by decide +kernel
theorem dX6_touchesField_30 : decode cX6_touchesField 30 = .ok (.ireturn, 1) := by decide +kernel
theorem dX6_emptyLineIfDone_0 : decode cX6_emptyLineIfDone 0 = .ok (.aload_n 1, 1) := by decide +kernel
theorem dX6_emptyLineIfDone_1 : decode cX6_emptyLineIfDone 1 = .ok (.invokevirtual 180, 3) := by decide +kernel
theorem dX6_emptyLineIfDone_4 : decode cX6_emptyLineIfDone 4 = .ok (.ifCond .eq 10, 3) := by decide +kernel
theorem dX6_emptyLineIfDone_7 : decode cX6_emptyLineIfDone 7 = .ok (.aload_n 0, 1) := by decide +kernel
theorem dX6_emptyLineIfDone_8 : decode cX6_emptyLineIfDone 8 = .ok (.getfield 12, 3) := by decide +kernel
theorem dX6_emptyLineIfDone_11 : decode cX6_emptyLineIfDone 11 = .ok (.invokevirtual 203, 3) := by decide +kernel
theorem dX6_emptyLineIfDone_14 : decode cX6_emptyLineIfDone 14 = .ok (.return_, 1) := by decide +kernel
theorem dX6_takeReadyCells_0 : decode cX6_takeReadyCells 0 = .ok (.aload_n 0, 1) := by decide +kernel
theorem dX6_takeReadyCells_1 : decode cX6_takeReadyCells 1 = .ok (.getfield 100, 3) := by decide +kernel
theorem dX6_takeReadyCells_4 : decode cX6_takeReadyCells 4 = .ok (.iconst 1, 1) := by decide +kernel
theorem dX6_takeReadyCells_5 : decode cX6_takeReadyCells 5 = .ok (.isub, 1) := by decide +kernel
theorem dX6_takeReadyCells_6 : decode cX6_takeReadyCells 6 = .ok (.istore_n 2, 1) := by decide +kernel
theorem dX6_takeReadyCells_7 : decode cX6_takeReadyCells 7 = .ok (.aload_n 0, 1) := by decide +kernel
theorem dX6_takeReadyCells_8 : decode cX6_takeReadyCells 8 = .ok (.getfield 12, 3) := by decide +kernel
theorem dX6_takeReadyCells_11 : decode cX6_takeReadyCells 11 = .ok (.iconst (-1), 1) := by decide +kernel
theorem dX6_takeReadyCells_12 : decode cX6_takeReadyCells 12 = .ok (.iload_n 2, 1) := by decide +kernel
theorem dX6_takeReadyCells_13 : decode cX6_takeReadyCells 13 = .ok (.invokevirtual 206, 3) := by decide +kernel
theorem dX6_takeReadyCells_16 : decode cX6_takeReadyCells 16 = .ok (.iconst 0, 1) := by decide +kernel
theorem dX6_takeReadyCells_17 : decode cX6_takeReadyCells 17 = .ok (.istore_n 3, 1) := by decide +kernel
theorem dX6_takeReadyCells_18 : decode cX6_takeReadyCells 18 = .ok (.iload_n 3, 1) := by decide +kernel
theorem dX6_takeReadyCells_19 : decode cX6_takeReadyCells 19 = .ok (.aload_n 1, 1) := by decide +kernel
theorem dX6_takeReadyCells_20 : decode cX6_takeReadyCells 20 = .ok (.getfield 147, 3) := by decide +kernel
theorem dX6_takeReadyCells_23 : decode cX6_takeReadyCells 23 = .ok (.if_icmp .ge 42, 3) := by decide +kernel
theorem dX6_takeReadyCells_26 : decode cX6_takeReadyCells 26 = .ok (.aload_n 1, 1) := by decide +kernel
theorem dX6_takeReadyCells_27 : decode cX6_takeReadyCells 27 = .ok (.iload_n 3, 1) := by decide +kernel
theorem dX6_takeReadyCells_28 : decode cX6_takeReadyCells 28 = .ok (.invokevirtual 150, 3) := by decide +kernel
theorem dX6_takeReadyCells_31 : decode cX6_takeReadyCells 31 = .ok (.astore 4, 2) := by decide +kernel
theorem dX6_takeReadyCells_33 : decode cX6_takeReadyCells 33 = .ok (.aload 4, 2) := by decide +kernel
theorem dX6_takeReadyCells_35 : decode cX6_takeReadyCells 35 = .ok (.ifnull 24, 3) := by decide +kernel
theorem dX6_takeReadyCells_38 : decode cX6_takeReadyCells 38 = .ok (.aload 4, 2) := by decide +kernel
theorem dX6_takeReadyCells_40 : decode cX6_takeReadyCells 40 = .ok (.invokevirtual 209, 3) := by decide +kernel
theorem dX6_takeReadyCells_43 : decode cX6_takeReadyCells 43 = .ok (.ifCond .eq 16, 3) := by decide +kernel
theorem dX6_takeReadyCells_46 : decode cX6_takeReadyCells 46 = .ok (.aload_n 0, 1) := by decide +kernel
theorem dX6_takeReadyCells_47 : decode cX6_takeReadyCells 47 = .ok (.getfield 12, 3) := by decide +kernel
theorem dX6_takeReadyCells_50 : decode cX6_takeReadyCells 50 = .ok (.aload 4, 2) := by decide +kernel
theorem dX6_takeReadyCells_52 : decode cX6_takeReadyCells 52 = .ok (.getfield 212, 3) := by decide +kernel
theorem dX6_takeReadyCells_55 : decode cX6_takeReadyCells 55 = .ok (.iload_n 2, 1) := by decide +kernel
theorem dX6_takeReadyCells_56 : decode cX6_takeReadyCells 56 = .ok (.invokevirtual 206, 3) := by decide +kernel
theorem dX6_takeReadyCells_59 : decode cX6_takeReadyCells 59 = .ok (.iinc 3 1, 3) := by decide +kernel
theorem dX6_takeReadyCells_62 : decode cX6_takeReadyCells 62 = .ok (.goto (-44), 3) := by decide +kernel
theorem dX6_takeReadyCells_65 : decode cX6_takeReadyCells 65 = .ok (.return_, 1) := by decide +kernel
theorem dX6_settleReadyCases_0 : decode cX6_settleReadyCases 0 = .ok (.iconst 0, 1) := by decide +kernel
theorem dX6_settleReadyCases_1 : decode cX6_settleReadyCases 1 = .ok (.istore_n 2, 1) := by decide +kernel
theorem dX6_settleReadyCases_2 : decode cX6_settleReadyCases 2 = .ok (.iconst 0, 1) := by decide +kernel
theorem dX6_settleReadyCases_3 : decode cX6_settleReadyCases 3 = .ok (.istore_n 3, 1) := by decide +kernel
theorem dX6_settleReadyCases_4 : decode cX6_settleReadyCases 4 = .ok (.iload_n 3, 1) := by decide +kernel
theorem dX6_settleReadyCases_5 : decode cX6_settleReadyCases 5 = .ok (.aload_n 1, 1) := by decide +kernel
theorem dX6_settleReadyCases_6 : decode cX6_settleReadyCases 6 = .ok (.getfield 147, 3) := by decide +kernel
theorem dX6_settleReadyCases_9 : decode cX6_settleReadyCases 9 = .ok (.if_icmp .ge 91, 3) := by decide +kernel
theorem dX6_settleReadyCases_12 : decode cX6_settleReadyCases 12 = .ok (.aload_n 1, 1) := by decide +kernel
theorem dX6_settleReadyCases_13 : decode cX6_settleReadyCases 13 = .ok (.iload_n 3, 1) := by decide +kernel
theorem dX6_settleReadyCases_14 : decode cX6_settleReadyCases 14 = .ok (.invokevirtual 150, 3) := by decide +kernel
theorem dX6_settleReadyCases_17 : decode cX6_settleReadyCases 17 = .ok (.astore 4, 2) := by decide +kernel
theorem dX6_settleReadyCases_19 : decode cX6_settleReadyCases 19 = .ok (.aload 4, 2) := by decide +kernel
theorem dX6_settleReadyCases_21 : decode cX6_settleReadyCases 21 = .ok (.ifnull 73, 3) := by decide +kernel
theorem dX6_settleReadyCases_24 : decode cX6_settleReadyCases 24 = .ok (.aload 4, 2) := by decide +kernel
theorem dX6_settleReadyCases_26 : decode cX6_settleReadyCases 26 = .ok (.invokevirtual 209, 3) := by decide +kernel
theorem dX6_settleReadyCases_29 : decode cX6_settleReadyCases 29 = .ok (.ifCond .eq 65, 3) := by decide +kernel
theorem dX6_settleReadyCases_32 : decode cX6_settleReadyCases 32 = .ok (.aload_n 0, 1) := by decide +kernel
theorem dX6_settleReadyCases_33 : decode cX6_settleReadyCases 33 = .ok (.aload 4, 2) := by decide +kernel
theorem dX6_settleReadyCases_35 : decode cX6_settleReadyCases 35 = .ok (.getfield 212, 3) := by decide +kernel
theorem dX6_settleReadyCases_38 : decode cX6_settleReadyCases 38 = .ok (.invokevirtual 69, 3) := by decide +kernel
theorem dX6_settleReadyCases_41 : decode cX6_settleReadyCases 41 = .ok (.ifCond .eq 53, 3) := by decide +kernel
theorem dX6_settleReadyCases_44 : decode cX6_settleReadyCases 44 = .ok (.aload_n 0, 1) := by decide +kernel
theorem dX6_settleReadyCases_45 : decode cX6_settleReadyCases 45 = .ok (.aload 4, 2) := by decide +kernel
theorem dX6_settleReadyCases_47 : decode cX6_settleReadyCases 47 = .ok (.aload_n 0, 1) := by decide +kernel
theorem dX6_settleReadyCases_48 : decode cX6_settleReadyCases 48 = .ok (.getfield 25, 3) := by decide +kernel
theorem dX6_settleReadyCases_51 : decode cX6_settleReadyCases 51 = .ok (.aload 4, 2) := by decide +kernel
theorem dX6_settleReadyCases_53 : decode cX6_settleReadyCases 53 = .ok (.getfield 212, 3) := by decide +kernel
theorem dX6_settleReadyCases_56 : decode cX6_settleReadyCases 56 = .ok (.aaload, 1) := by decide +kernel
theorem dX6_settleReadyCases_57 : decode cX6_settleReadyCases 57 = .ok (.invokevirtual 215, 3) := by decide +kernel
theorem dX6_settleReadyCases_60 : decode cX6_settleReadyCases 60 = .ok (.aload_n 0, 1) := by decide +kernel
theorem dX6_settleReadyCases_61 : decode cX6_settleReadyCases 61 = .ok (.aload 4, 2) := by decide +kernel
theorem dX6_settleReadyCases_63 : decode cX6_settleReadyCases 63 = .ok (.aload_n 0, 1) := by decide +kernel
theorem dX6_settleReadyCases_64 : decode cX6_settleReadyCases 64 = .ok (.getfield 25, 3) := by decide +kernel
theorem dX6_settleReadyCases_67 : decode cX6_settleReadyCases 67 = .ok (.aload 4, 2) := by decide +kernel
theorem dX6_settleReadyCases_69 : decode cX6_settleReadyCases 69 = .ok (.getfield 212, 3) := by decide +kernel
theorem dX6_settleReadyCases_72 : decode cX6_settleReadyCases 72 = .ok (.aaload, 1) := by decide +kernel
theorem dX6_settleReadyCases_73 : decode cX6_settleReadyCases 73 = .ok (.invokevirtual 219, 3) := by decide +kernel
theorem dX6_settleReadyCases_76 : decode cX6_settleReadyCases 76 = .ok (.aload 4, 2) := by decide +kernel
theorem dX6_settleReadyCases_78 : decode cX6_settleReadyCases 78 = .ok (.aload_n 0, 1) := by decide +kernel
theorem dX6_settleReadyCases_79 : decode cX6_settleReadyCases 79 = .ok (.getfield 121, 3) := by decide +kernel
theorem dX6_settleReadyCases_82 : decode cX6_settleReadyCases 82 = .ok (.aload_n 0, 1) := by decide +kernel
theorem dX6_settleReadyCases_83 : decode cX6_settleReadyCases 83 = .ok (.getfield 41, 3) := by decide +kernel
theorem dX6_settleReadyCases_86 : decode cX6_settleReadyCases 86 = .ok (.iconst 3, 1) := by decide +kernel
theorem dX6_settleReadyCases_87 : decode cX6_settleReadyCases 87 = .ok (.iaload, 1) := by decide +kernel
theorem dX6_settleReadyCases_88 : decode cX6_settleReadyCases 88 = .ok (.invokevirtual 222, 3) := by decide +kernel
theorem dX6_settleReadyCases_91 : decode cX6_settleReadyCases 91 = .ok (.iinc 2 1, 3) := by decide +kernel
theorem dX6_settleReadyCases_94 : decode cX6_settleReadyCases 94 = .ok (.iinc 3 1, 3) := by decide +kernel
theorem dX6_settleReadyCases_97 : decode cX6_settleReadyCases 97 = .ok (.goto (-93), 3) := by decide +kernel
theorem dX6_settleReadyCases_100 : decode cX6_settleReadyCases 100 = .ok (.iload_n 2, 1) := by decide +kernel
theorem dX6_settleReadyCases_101 : decode cX6_settleReadyCases 101 = .ok (.ireturn, 1) := by decide +kernel
theorem dX6_assess_0 : decode cX6_assess 0 = .ok (.aload_n 1, 1) := by decide +kernel
theorem dX6_assess_1 : decode cX6_assess 1 = .ok (.getfield 212, 3) := by decide +kernel
theorem dX6_assess_4 : decode cX6_assess 4 = .ok (.istore_n 3, 1) := by decide +kernel
theorem dX6_assess_5 : decode cX6_assess 5 = .ok (.aload_n 0, 1) := by decide +kernel
theorem dX6_assess_6 : decode cX6_assess 6 = .ok (.getfield 19, 3) := by decide +kernel
theorem dX6_assess_9 : decode cX6_assess 9 = .ok (.aload_n 0, 1) := by decide +kernel
theorem dX6_assess_10 : decode cX6_assess 10 = .ok (.getfield 12, 3) := by decide +kernel
theorem dX6_assess_13 : decode cX6_assess 13 = .ok (.iload_n 3, 1) := by decide +kernel
theorem dX6_assess_14 : decode cX6_assess 14 = .ok (.aload_n 2, 1) := by decide +kernel
theorem dX6_assess_15 : decode cX6_assess 15 = .ok (.getfield 90, 3) := by decide +kernel
theorem dX6_assess_18 : decode cX6_assess 18 = .ok (.invokevirtual 225, 3) := by decide +kernel
theorem dX6_assess_21 : decode cX6_assess 21 = .ok (.aload_n 1, 1) := by decide +kernel
theorem dX6_assess_22 : decode cX6_assess 22 = .ok (.aload_n 0, 1) := by decide +kernel
theorem dX6_assess_23 : decode cX6_assess 23 = .ok (.getfield 12, 3) := by decide +kernel
theorem dX6_assess_26 : decode cX6_assess 26 = .ok (.iload_n 3, 1) := by decide +kernel
theorem dX6_assess_27 : decode cX6_assess 27 = .ok (.aload_n 0, 1) := by decide +kernel
theorem dX6_assess_28 : decode cX6_assess 28 = .ok (.getfield 37, 3) := by decide +kernel
theorem dX6_assess_31 : decode cX6_assess 31 = .ok (.invokevirtual 229, 3) := by decide +kernel
theorem dX6_assess_34 : decode cX6_assess 34 = .ok (.putfield 233, 3) := by decide +kernel
theorem dX6_assess_37 : decode cX6_assess 37 = .ok (.aload_n 1, 1) := by decide +kernel
theorem dX6_assess_38 : decode cX6_assess 38 = .ok (.lconst 0, 1) := by decide +kernel
theorem dX6_assess_39 : decode cX6_assess 39 = .ok (.aload_n 0, 1) := by decide +kernel
theorem dX6_assess_40 : decode cX6_assess 40 = .ok (.invokevirtual 236, 3) := by decide +kernel
theorem dX6_assess_43 : decode cX6_assess 43 = .ok (.aload_n 0, 1) := by decide +kernel
theorem dX6_assess_44 : decode cX6_assess 44 = .ok (.iload_n 3, 1) := by decide +kernel
theorem dX6_assess_45 : decode cX6_assess 45 = .ok (.invokevirtual 240, 3) := by decide +kernel
theorem dX6_assess_48 : decode cX6_assess 48 = .ok (.lsub, 1) := by decide +kernel
theorem dX6_assess_49 : decode cX6_assess 49 = .ok (.invokestatic 244, 3) := by decide +kernel
theorem dX6_assess_52 : decode cX6_assess 52 = .ok (.putfield 250, 3) := by decide +kernel
theorem dX6_assess_55 : decode cX6_assess 55 = .ok (.aload_n 1, 1) := by decide +kernel
theorem dX6_assess_56 : decode cX6_assess 56 = .ok (.aload_n 0, 1) := by decide +kernel
theorem dX6_assess_57 : decode cX6_assess 57 = .ok (.getfield 41, 3) := by decide +kernel
theorem dX6_assess_60 : decode cX6_assess 60 = .ok (.iconst 1, 1) := by decide +kernel
theorem dX6_assess_61 : decode cX6_assess 61 = .ok (.iaload, 1) := by decide +kernel
theorem dX6_assess_62 : decode cX6_assess 62 = .ok (.i2l, 1) := by decide +kernel
theorem dX6_assess_63 : decode cX6_assess 63 = .ok (.aload_n 0, 1) := by decide +kernel
theorem dX6_assess_64 : decode cX6_assess 64 = .ok (.getfield 12, 3) := by decide +kernel
theorem dX6_assess_67 : decode cX6_assess 67 = .ok (.iload_n 3, 1) := by decide +kernel
theorem dX6_assess_68 : decode cX6_assess 68 = .ok (.invokevirtual 253, 3) := by decide +kernel
theorem dX6_assess_71 : decode cX6_assess 71 = .ok (.i2l, 1) := by decide +kernel
theorem dX6_assess_72 : decode cX6_assess 72 = .ok (.lmul, 1) := by decide +kernel
theorem dX6_assess_73 : decode cX6_assess 73 = .ok (.putfield 256, 3) := by decide +kernel
theorem dX6_assess_76 : decode cX6_assess 76 = .ok (.aload_n 1, 1) := by decide +kernel
theorem dX6_assess_77 : decode cX6_assess 77 = .ok (.getfield 233, 3) := by decide +kernel
theorem dX6_assess_80 : decode cX6_assess 80 = .ok (.aload_n 1, 1) := by decide +kernel
theorem dX6_assess_81 : decode cX6_assess 81 = .ok (.getfield 250, 3) := by decide +kernel
theorem dX6_assess_84 : decode cX6_assess 84 = .ok (.ladd, 1) := by decide +kernel
theorem dX6_assess_85 : decode cX6_assess 85 = .ok (.aload_n 1, 1) := by decide +kernel
theorem dX6_assess_86 : decode cX6_assess 86 = .ok (.getfield 256, 3) := by decide +kernel
theorem dX6_assess_89 : decode cX6_assess 89 = .ok (.ladd, 1) := by decide +kernel
theorem dX6_assess_90 : decode cX6_assess 90 = .ok (.lstore 4, 2) := by decide +kernel
theorem dX6_assess_92 : decode cX6_assess 92 = .ok (.aload_n 1, 1) := by decide +kernel
theorem dX6_assess_93 : decode cX6_assess 93 = .ok (.lload 4, 2) := by decide +kernel
theorem dX6_assess_95 : decode cX6_assess 95 = .ok (.aload_n 0, 1) := by decide +kernel
theorem dX6_assess_96 : decode cX6_assess 96 = .ok (.getfield 19, 3) := by decide +kernel
theorem dX6_assess_99 : decode cX6_assess 99 = .ok (.aload_n 0, 1) := by decide +kernel
theorem dX6_assess_100 : decode cX6_assess 100 = .ok (.getfield 19, 3) := by decide +kernel
theorem dX6_assess_103 : decode cX6_assess 103 = .ok (.getfield 259, 3) := by decide +kernel
theorem dX6_assess_106 : decode cX6_assess 106 = .ok (.aload_n 0, 1) := by decide +kernel
theorem dX6_assess_107 : decode cX6_assess 107 = .ok (.getfield 12, 3) := by decide +kernel
theorem dX6_assess_110 : decode cX6_assess 110 = .ok (.aload_n 0, 1) := by decide +kernel
theorem dX6_assess_111 : decode cX6_assess 111 = .ok (.getfield 37, 3) := by decide +kernel
theorem dX6_assess_114 : decode cX6_assess 114 = .ok (.invokevirtual 262, 3) := by decide +kernel
theorem dX6_assess_117 : decode cX6_assess 117 = .ok (.aload_n 0, 1) := by decide +kernel
theorem dX6_assess_118 : decode cX6_assess 118 = .ok (.getfield 41, 3) := by decide +kernel
theorem dX6_assess_121 : decode cX6_assess 121 = .ok (.iconst 2, 1) := by decide +kernel
theorem dX6_assess_122 : decode cX6_assess 122 = .ok (.iaload, 1) := by decide +kernel
theorem dX6_assess_123 : decode cX6_assess 123 = .ok (.i2l, 1) := by decide +kernel
theorem dX6_assess_124 : decode cX6_assess 124 = .ok (.lmul, 1) := by decide +kernel
theorem dX6_assess_125 : decode cX6_assess 125 = .ok (.ldc2_w 266, 3) := by decide +kernel
theorem dX6_assess_128 : decode cX6_assess 128 = .ok (.ldiv, 1) := by decide +kernel
theorem dX6_assess_129 : decode cX6_assess 129 = .ok (.invokestatic 268, 3) := by decide +kernel
theorem dX6_assess_132 : decode cX6_assess 132 = .ok (.putfield 271, 3) := by decide +kernel
theorem dX6_assess_135 : decode cX6_assess 135 = .ok (.aload_n 1, 1) := by decide +kernel
theorem dX6_assess_136 : decode cX6_assess 136 = .ok (.lload 4, 2) := by decide +kernel
theorem dX6_assess_138 : decode cX6_assess 138 = .ok (.aload_n 1, 1) := by decide +kernel
theorem dX6_assess_139 : decode cX6_assess 139 = .ok (.getfield 271, 3) := by decide +kernel
theorem dX6_assess_142 : decode cX6_assess 142 = .ok (.lsub, 1) := by decide +kernel
theorem dX6_assess_143 : decode cX6_assess 143 = .ok (.putfield 274, 3) := by decide +kernel
theorem dX6_assess_146 : decode cX6_assess 146 = .ok (.return_, 1) := by decide +kernel
theorem dX6_lossOfPieces_0 : decode cX6_lossOfPieces 0 = .ok (.aload_n 0, 1) := by decide +kernel
theorem dX6_lossOfPieces_1 : decode cX6_lossOfPieces 1 = .ok (.getfield 19, 3) := by decide +kernel
theorem dX6_lossOfPieces_4 : decode cX6_lossOfPieces 4 = .ok (.aload_n 0, 1) := by decide +kernel
theorem dX6_lossOfPieces_5 : decode cX6_lossOfPieces 5 = .ok (.getfield 19, 3) := by decide +kernel
theorem dX6_lossOfPieces_8 : decode cX6_lossOfPieces 8 = .ok (.getfield 259, 3) := by decide +kernel
theorem dX6_lossOfPieces_11 : decode cX6_lossOfPieces 11 = .ok (.invokevirtual 277, 3) := by decide +kernel
theorem dX6_lossOfPieces_14 : decode cX6_lossOfPieces 14 = .ok (.istore_n 1, 1) := by decide +kernel
theorem dX6_lossOfPieces_15 : decode cX6_lossOfPieces 15 = .ok (.lconst 0, 1) := by decide +kernel
theorem dX6_lossOfPieces_16 : decode cX6_lossOfPieces 16 = .ok (.lstore_n 2, 1) := by decide +kernel
theorem dX6_lossOfPieces_17 : decode cX6_lossOfPieces 17 = .ok (.iconst 0, 1) := by decide +kernel
theorem dX6_lossOfPieces_18 : decode cX6_lossOfPieces 18 = .ok (.istore 4, 2) := by decide +kernel
theorem dX6_lossOfPieces_20 : decode cX6_lossOfPieces 20 = .ok (.iload 4, 2) := by decide +kernel
theorem dX6_lossOfPieces_22 : decode cX6_lossOfPieces 22 = .ok (.aload_n 0, 1) := by decide +kernel
theorem dX6_lossOfPieces_23 : decode cX6_lossOfPieces 23 = .ok (.getfield 19, 3) := by decide +kernel
theorem dX6_lossOfPieces_26 : decode cX6_lossOfPieces 26 = .ok (.getfield 280, 3) := by decide +kernel
theorem dX6_lossOfPieces_29 : decode cX6_lossOfPieces 29 = .ok (.if_icmp .ge 90, 3) := by decide +kernel
theorem dX6_lossOfPieces_32 : decode cX6_lossOfPieces 32 = .ok (.iload 4, 2) := by decide +kernel
theorem dX6_lossOfPieces_34 : decode cX6_lossOfPieces 34 = .ok (.aload_n 0, 1) := by decide +kernel
theorem dX6_lossOfPieces_35 : decode cX6_lossOfPieces 35 = .ok (.getfield 19, 3) := by decide +kernel
theorem dX6_lossOfPieces_38 : decode cX6_lossOfPieces 38 = .ok (.getfield 259, 3) := by decide +kernel
theorem dX6_lossOfPieces_41 : decode cX6_lossOfPieces 41 = .ok (.if_icmp .eq 72, 3) := by decide +kernel
theorem dX6_lossOfPieces_44 : decode cX6_lossOfPieces 44 = .ok (.aload_n 0, 1) := by decide +kernel
theorem dX6_lossOfPieces_45 : decode cX6_lossOfPieces 45 = .ok (.getfield 19, 3) := by decide +kernel
theorem dX6_lossOfPieces_48 : decode cX6_lossOfPieces 48 = .ok (.iload 4, 2) := by decide +kernel
theorem dX6_lossOfPieces_50 : decode cX6_lossOfPieces 50 = .ok (.aload_n 0, 1) := by decide +kernel
theorem dX6_lossOfPieces_51 : decode cX6_lossOfPieces 51 = .ok (.getfield 12, 3) := by decide +kernel
theorem dX6_lossOfPieces_54 : decode cX6_lossOfPieces 54 = .ok (.aload_n 0, 1) := by decide +kernel
theorem dX6_lossOfPieces_55 : decode cX6_lossOfPieces 55 = .ok (.getfield 37, 3) := by decide +kernel
theorem dX6_lossOfPieces_58 : decode cX6_lossOfPieces 58 = .ok (.invokevirtual 262, 3) := by decide +kernel
theorem dX6_lossOfPieces_61 : decode cX6_lossOfPieces 61 = .ok (.lstore 5, 2) := by decide +kernel
theorem dX6_lossOfPieces_63 : decode cX6_lossOfPieces 63 = .ok (.iload_n 1, 1) := by decide +kernel
theorem dX6_lossOfPieces_64 : decode cX6_lossOfPieces 64 = .ok (.ifCond .eq 19, 3) := by decide +kernel
theorem dX6_lossOfPieces_67 : decode cX6_lossOfPieces 67 = .ok (.aload_n 0, 1) := by decide +kernel
theorem dX6_lossOfPieces_68 : decode cX6_lossOfPieces 68 = .ok (.getfield 19, 3) := by decide +kernel
theorem dX6_lossOfPieces_71 : decode cX6_lossOfPieces 71 = .ok (.iload 4, 2) := by decide +kernel
theorem dX6_lossOfPieces_73 : decode cX6_lossOfPieces 73 = .ok (.invokevirtual 277, 3) := by decide +kernel
theorem dX6_lossOfPieces_76 : decode cX6_lossOfPieces 76 = .ok (.ifCond .ne 7, 3) := by decide +kernel
theorem dX6_lossOfPieces_79 : decode cX6_lossOfPieces 79 = .ok (.iconst 1, 1) := by decide +kernel
theorem dX6_lossOfPieces_80 : decode cX6_lossOfPieces 80 = .ok (.goto 4, 3) := by decide +kernel
theorem dX6_lossOfPieces_83 : decode cX6_lossOfPieces 83 = .ok (.iconst 0, 1) := by decide +kernel
theorem dX6_lossOfPieces_84 : decode cX6_lossOfPieces 84 = .ok (.istore 7, 2) := by decide +kernel
theorem dX6_lossOfPieces_86 : decode cX6_lossOfPieces 86 = .ok (.lload_n 2, 1) := by decide +kernel
theorem dX6_lossOfPieces_87 : decode cX6_lossOfPieces 87 = .ok (.iload 7, 2) := by decide +kernel
theorem dX6_lossOfPieces_89 : decode cX6_lossOfPieces 89 = .ok (.ifCond .eq 8, 3) := by decide +kernel
theorem dX6_lossOfPieces_92 : decode cX6_lossOfPieces 92 = .ok (.lload 5, 2) := by decide +kernel
theorem dX6_lossOfPieces_94 : decode cX6_lossOfPieces 94 = .ok (.goto 17, 3) := by decide +kernel
theorem dX6_lossOfPieces_97 : decode cX6_lossOfPieces 97 = .ok (.lload 5, 2) := by decide +kernel
theorem dX6_lossOfPieces_99 : decode cX6_lossOfPieces 99 = .ok (.aload_n 0, 1) := by decide +kernel
theorem dX6_lossOfPieces_100 : decode cX6_lossOfPieces 100 = .ok (.getfield 41, 3) := by decide +kernel
theorem dX6_lossOfPieces_103 : decode cX6_lossOfPieces 103 = .ok (.iconst 0, 1) := by decide +kernel
theorem dX6_lossOfPieces_104 : decode cX6_lossOfPieces 104 = .ok (.iaload, 1) := by decide +kernel
theorem dX6_lossOfPieces_105 : decode cX6_lossOfPieces 105 = .ok (.i2l, 1) := by decide +kernel
theorem dX6_lossOfPieces_106 : decode cX6_lossOfPieces 106 = .ok (.lmul, 1) := by decide +kernel
theorem dX6_lossOfPieces_107 : decode cX6_lossOfPieces 107 = .ok (.ldc2_w 266, 3) := by decide +kernel
theorem dX6_lossOfPieces_110 : decode cX6_lossOfPieces 110 = .ok (.ldiv, 1) := by decide +kernel
theorem dX6_lossOfPieces_111 : decode cX6_lossOfPieces 111 = .ok (.ladd, 1) := by decide +kernel
theorem dX6_lossOfPieces_112 : decode cX6_lossOfPieces 112 = .ok (.lstore_n 2, 1) := by decide +kernel
theorem dX6_lossOfPieces_113 : decode cX6_lossOfPieces 113 = .ok (.iinc 4 1, 3) := by decide +kernel
theorem dX6_lossOfPieces_116 : decode cX6_lossOfPieces 116 = .ok (.goto (-96), 3) := by decide +kernel
theorem dX6_lossOfPieces_119 : decode cX6_lossOfPieces 119 = .ok (.lload_n 2, 1) := by decide +kernel
theorem dX6_lossOfPieces_120 : decode cX6_lossOfPieces 120 = .ok (.lreturn, 1) := by decide +kernel
theorem dX6_lossBefore_0 : decode cX6_lossBefore 0 = .ok (.lconst 0, 1) := by decide +kernel
theorem dX6_lossBefore_1 : decode cX6_lossBefore 1 = .ok (.lstore_n 2, 1) := by decide +kernel
theorem dX6_lossBefore_2 : decode cX6_lossBefore 2 = .ok (.iconst 0, 1) := by decide +kernel
theorem dX6_lossBefore_3 : decode cX6_lossBefore 3 = .ok (.istore 4, 2) := by decide +kernel
theorem dX6_lossBefore_5 : decode cX6_lossBefore 5 = .ok (.iload 4, 2) := by decide +kernel
theorem dX6_lossBefore_7 : decode cX6_lossBefore 7 = .ok (.aload_n 0, 1) := by decide +kernel
