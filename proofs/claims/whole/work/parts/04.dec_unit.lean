theorem dX0_init_0 : decode cX0_init 0 = .ok (.aload_n 0, 1) := by decide +kernel
theorem dX0_init_1 : decode cX0_init 1 = .ok (.invokespecial 3, 3) := by decide +kernel
theorem dX0_init_4 : decode cX0_init 4 = .ok (.return_, 1) := by decide +kernel
theorem dX0_settle_0 : decode cX0_settle 0 = .ok (.aload_n 0, 1) := by decide +kernel
theorem dX0_settle_1 : decode cX0_settle 1 = .ok (.iload_n 1, 1) := by decide +kernel
theorem dX0_settle_2 : decode cX0_settle 2 = .ok (.putfield 9, 3) := by decide +kernel
theorem dX0_settle_5 : decode cX0_settle 5 = .ok (.aload_n 0, 1) := by decide +kernel
theorem dX0_settle_6 : decode cX0_settle 6 = .ok (.iload_n 2, 1) := by decide +kernel
theorem dX0_settle_7 : decode cX0_settle 7 = .ok (.putfield 15, 3) := by decide +kernel
theorem dX0_settle_10 : decode cX0_settle 10 = .ok (.return_, 1) := by decide +kernel
theorem dX0_startAnew_0 : decode cX0_startAnew 0 = .ok (.aload_n 0, 1) := by decide +kernel
theorem dX0_startAnew_1 : decode cX0_startAnew 1 = .ok (.iconst 0, 1) := by decide +kernel
theorem dX0_startAnew_2 : decode cX0_startAnew 2 = .ok (.putfield 18, 3) := by decide +kernel
theorem dX0_startAnew_5 : decode cX0_startAnew 5 = .ok (.aload_n 0, 1) := by decide +kernel
theorem dX0_startAnew_6 : decode cX0_startAnew 6 = .ok (.iconst 0, 1) := by decide +kernel
theorem dX0_startAnew_7 : decode cX0_startAnew 7 = .ok (.putfield 21, 3) := by decide +kernel
theorem dX0_startAnew_10 : decode cX0_startAnew 10 = .ok (.aload_n 0, 1) := by decide +kernel
theorem dX0_startAnew_11 : decode cX0_startAnew 11 = .ok (.aload_n 0, 1) := by decide +kernel
theorem dX0_startAnew_12 : decode cX0_startAnew 12 = .ok (.getfield 9, 3) := by decide +kernel
theorem dX0_startAnew_15 : decode cX0_startAnew 15 = .ok (.putfield 24, 3) := by decide +kernel
theorem dX0_startAnew_18 : decode cX0_startAnew 18 = .ok (.aload_n 0, 1) := by decide +kernel
theorem dX0_startAnew_19 : decode cX0_startAnew 19 = .ok (.iconst (-1), 1) := by decide +kernel
theorem dX0_startAnew_20 : decode cX0_startAnew 20 = .ok (.putfield 27, 3) := by decide +kernel
theorem dX0_startAnew_23 : decode cX0_startAnew 23 = .ok (.aload_n 0, 1) := by decide +kernel
theorem dX0_startAnew_24 : decode cX0_startAnew 24 = .ok (.aload_n 0, 1) := by decide +kernel
theorem dX0_startAnew_25 : decode cX0_startAnew 25 = .ok (.getfield 15, 3) := by decide +kernel
theorem dX0_startAnew_28 : decode cX0_startAnew 28 = .ok (.putfield 30, 3) := by decide +kernel
theorem dX0_startAnew_31 : decode cX0_startAnew 31 = .ok (.aload_n 0, 1) := by decide +kernel
theorem dX0_startAnew_32 : decode cX0_startAnew 32 = .ok (.iconst 0, 1) := by decide +kernel
theorem dX0_startAnew_33 : decode cX0_startAnew 33 = .ok (.putfield 33, 3) := by decide +kernel
theorem dX0_startAnew_36 : decode cX0_startAnew 36 = .ok (.aload_n 0, 1) := by decide +kernel
theorem dX0_startAnew_37 : decode cX0_startAnew 37 = .ok (.iconst 1, 1) := by decide +kernel
theorem dX0_startAnew_38 : decode cX0_startAnew 38 = .ok (.putfield 36, 3) := by decide +kernel
theorem dX0_startAnew_41 : decode cX0_startAnew 41 = .ok (.aload_n 0, 1) := by decide +kernel
theorem dX0_startAnew_42 : decode cX0_startAnew 42 = .ok (.iconst (-1), 1) := by decide +kernel
theorem dX0_startAnew_43 : decode cX0_startAnew 43 = .ok (.putfield 39, 3) := by decide +kernel
theorem dX0_startAnew_46 : decode cX0_startAnew 46 = .ok (.aload_n 0, 1) := by decide +kernel
theorem dX0_startAnew_47 : decode cX0_startAnew 47 = .ok (.iconst 0, 1) := by decide +kernel
theorem dX0_startAnew_48 : decode cX0_startAnew 48 = .ok (.putfield 42, 3) := by decide +kernel
theorem dX0_startAnew_51 : decode cX0_startAnew 51 = .ok (.aload_n 0, 1) := by decide +kernel
theorem dX0_startAnew_52 : decode cX0_startAnew 52 = .ok (.iconst (-1), 1) := by decide +kernel
theorem dX0_startAnew_53 : decode cX0_startAnew 53 = .ok (.putfield 45, 3) := by decide +kernel
theorem dX0_startAnew_56 : decode cX0_startAnew 56 = .ok (.aload_n 0, 1) := by decide +kernel
theorem dX0_startAnew_57 : decode cX0_startAnew 57 = .ok (.iconst (-1), 1) := by decide +kernel
theorem dX0_startAnew_58 : decode cX0_startAnew 58 = .ok (.putfield 48, 3) := by decide +kernel
theorem dX0_startAnew_61 : decode cX0_startAnew 61 = .ok (.aload_n 0, 1) := by decide +kernel
theorem dX0_startAnew_62 : decode cX0_startAnew 62 = .ok (.iconst 0, 1) := by decide +kernel
theorem dX0_startAnew_63 : decode cX0_startAnew 63 = .ok (.putfield 51, 3) := by decide +kernel
theorem dX0_startAnew_66 : decode cX0_startAnew 66 = .ok (.return_, 1) := by decide +kernel
theorem dX0_take_0 : decode cX0_take 0 = .ok (.iload_n 1, 1) := by decide +kernel
theorem dX0_take_1 : decode cX0_take 1 = .ok (.tableswitch 72 11 15 #[35, 42, 49, 56, 63], 35) := by decide +kernel
theorem dX0_take_36 : decode cX0_take 36 = .ok (.aload_n 0, 1) := by decide +kernel
theorem dX0_take_37 : decode cX0_take 37 = .ok (.iload_n 2, 1) := by decide +kernel
theorem dX0_take_38 : decode cX0_take 38 = .ok (.iload_n 3, 1) := by decide +kernel
theorem dX0_take_39 : decode cX0_take 39 = .ok (.invokevirtual 54, 3) := by decide +kernel
theorem dX0_take_42 : decode cX0_take 42 = .ok (.ireturn, 1) := by decide +kernel
theorem dX0_take_43 : decode cX0_take 43 = .ok (.aload_n 0, 1) := by decide +kernel
theorem dX0_take_44 : decode cX0_take 44 = .ok (.iload_n 2, 1) := by decide +kernel
theorem dX0_take_45 : decode cX0_take 45 = .ok (.putfield 30, 3) := by decide +kernel
theorem dX0_take_48 : decode cX0_take 48 = .ok (.iconst 0, 1) := by decide +kernel
theorem dX0_take_49 : decode cX0_take 49 = .ok (.ireturn, 1) := by decide +kernel
theorem dX0_take_50 : decode cX0_take 50 = .ok (.aload_n 0, 1) := by decide +kernel
theorem dX0_take_51 : decode cX0_take 51 = .ok (.iload_n 2, 1) := by decide +kernel
theorem dX0_take_52 : decode cX0_take 52 = .ok (.putfield 33, 3) := by decide +kernel
theorem dX0_take_55 : decode cX0_take 55 = .ok (.iconst 0, 1) := by decide +kernel
theorem dX0_take_56 : decode cX0_take 56 = .ok (.ireturn, 1) := by decide +kernel
theorem dX0_take_57 : decode cX0_take 57 = .ok (.aload_n 0, 1) := by decide +kernel
theorem dX0_take_58 : decode cX0_take 58 = .ok (.iload_n 2, 1) := by decide +kernel
theorem dX0_take_59 : decode cX0_take 59 = .ok (.putfield 36, 3) := by decide +kernel
theorem dX0_take_62 : decode cX0_take 62 = .ok (.iconst 0, 1) := by decide +kernel
theorem dX0_take_63 : decode cX0_take 63 = .ok (.ireturn, 1) := by decide +kernel
theorem dX0_take_64 : decode cX0_take 64 = .ok (.aload_n 0, 1) := by decide +kernel
theorem dX0_take_65 : decode cX0_take 65 = .ok (.iload_n 3, 1) := by decide +kernel
theorem dX0_take_66 : decode cX0_take 66 = .ok (.iload_n 2, 1) := by decide +kernel
theorem dX0_take_67 : decode cX0_take 67 = .ok (.iadd, 1) := by decide +kernel
theorem dX0_take_68 : decode cX0_take 68 = .ok (.putfield 45, 3) := by decide +kernel
theorem dX0_take_71 : decode cX0_take 71 = .ok (.iconst 0, 1) := by decide +kernel
theorem dX0_take_72 : decode cX0_take 72 = .ok (.ireturn, 1) := by decide +kernel
theorem dX0_take_73 : decode cX0_take 73 = .ok (.aload_n 0, 1) := by decide +kernel
theorem dX0_take_74 : decode cX0_take 74 = .ok (.iload_n 1, 1) := by decide +kernel
theorem dX0_take_75 : decode cX0_take 75 = .ok (.iload_n 2, 1) := by decide +kernel
theorem dX0_take_76 : decode cX0_take 76 = .ok (.iload_n 3, 1) := by decide +kernel
theorem dX0_take_77 : decode cX0_take 77 = .ok (.iload 4, 2) := by decide +kernel
theorem dX0_take_79 : decode cX0_take 79 = .ok (.invokevirtual 58, 3) := by decide +kernel
theorem dX0_take_82 : decode cX0_take 82 = .ok (.ireturn, 1) := by decide +kernel
theorem dX0_takePlace_0 : decode cX0_takePlace 0 = .ok (.aload_n 0, 1) := by decide +kernel
theorem dX0_takePlace_1 : decode cX0_takePlace 1 = .ok (.getfield 36, 3) := by decide +kernel
theorem dX0_takePlace_4 : decode cX0_takePlace 4 = .ok (.ifCond .ne 5, 3) := by decide +kernel
theorem dX0_takePlace_7 : decode cX0_takePlace 7 = .ok (.iconst 4, 1) := by decide +kernel
theorem dX0_takePlace_8 : decode cX0_takePlace 8 = .ok (.ireturn, 1) := by decide +kernel
theorem dX0_takePlace_9 : decode cX0_takePlace 9 = .ok (.aload_n 0, 1) := by decide +kernel
theorem dX0_takePlace_10 : decode cX0_takePlace 10 = .ok (.iload_n 1, 1) := by decide +kernel
theorem dX0_takePlace_11 : decode cX0_takePlace 11 = .ok (.putfield 39, 3) := by decide +kernel
theorem dX0_takePlace_14 : decode cX0_takePlace 14 = .ok (.aload_n 0, 1) := by decide +kernel
theorem dX0_takePlace_15 : decode cX0_takePlace 15 = .ok (.iload_n 2, 1) := by decide +kernel
theorem dX0_takePlace_16 : decode cX0_takePlace 16 = .ok (.putfield 42, 3) := by decide +kernel
theorem dX0_takePlace_19 : decode cX0_takePlace 19 = .ok (.iconst 0, 1) := by decide +kernel
theorem dX0_takePlace_20 : decode cX0_takePlace 20 = .ok (.ireturn, 1) := by decide +kernel
theorem dX0_takeState_0 : decode cX0_takeState 0 = .ok (.aload_n 0, 1) := by decide +kernel
theorem dX0_takeState_1 : decode cX0_takeState 1 = .ok (.getfield 18, 3) := by decide +kernel
theorem dX0_takeState_4 : decode cX0_takeState 4 = .ok (.iload_n 1, 1) := by decide +kernel
theorem dX0_takeState_5 : decode cX0_takeState 5 = .ok (.invokestatic 62, 3) := by decide +kernel
theorem dX0_takeState_8 : decode cX0_takeState 8 = .ok (.ifCond .ne 5, 3) := by decide +kernel
theorem dX0_takeState_11 : decode cX0_takeState 11 = .ok (.iconst 1, 1) := by decide +kernel
theorem dX0_takeState_12 : decode cX0_takeState 12 = .ok (.ireturn, 1) := by decide +kernel
theorem dX0_takeState_13 : decode cX0_takeState 13 = .ok (.iload_n 1, 1) := by decide +kernel
theorem dX0_takeState_14 : decode cX0_takeState 14 = .ok (.invokestatic 66, 3) := by decide +kernel
theorem dX0_takeState_17 : decode cX0_takeState 17 = .ok (.ifCond .eq 16, 3) := by decide +kernel
theorem dX0_takeState_20 : decode cX0_takeState 20 = .ok (.aload_n 0, 1) := by decide +kernel
theorem dX0_takeState_21 : decode cX0_takeState 21 = .ok (.getfield 30, 3) := by decide +kernel
theorem dX0_takeState_24 : decode cX0_takeState 24 = .ok (.aload_n 0, 1) := by decide +kernel
theorem dX0_takeState_25 : decode cX0_takeState 25 = .ok (.getfield 15, 3) := by decide +kernel
theorem dX0_takeState_28 : decode cX0_takeState 28 = .ok (.if_icmp .ge 5, 3) := by decide +kernel
theorem dX0_takeState_31 : decode cX0_takeState 31 = .ok (.iconst 2, 1) := by decide +kernel
theorem dX0_takeState_32 : decode cX0_takeState 32 = .ok (.ireturn, 1) := by decide +kernel
theorem dX0_takeState_33 : decode cX0_takeState 33 = .ok (.aload_n 0, 1) := by decide +kernel
theorem dX0_takeState_34 : decode cX0_takeState 34 = .ok (.aload_n 0, 1) := by decide +kernel
theorem dX0_takeState_35 : decode cX0_takeState 35 = .ok (.iload_n 3, 1) := by decide +kernel
theorem dX0_takeState_36 : decode cX0_takeState 36 = .ok (.invokevirtual 70, 3) := by decide +kernel
theorem dX0_takeState_39 : decode cX0_takeState 39 = .ok (.putfield 51, 3) := by decide +kernel
theorem dX0_takeState_42 : decode cX0_takeState 42 = .ok (.aload_n 0, 1) := by decide +kernel
theorem dX0_takeState_43 : decode cX0_takeState 43 = .ok (.iload_n 1, 1) := by decide +kernel
theorem dX0_takeState_44 : decode cX0_takeState 44 = .ok (.putfield 18, 3) := by decide +kernel
theorem dX0_takeState_47 : decode cX0_takeState 47 = .ok (.aload_n 0, 1) := by decide +kernel
theorem dX0_takeState_48 : decode cX0_takeState 48 = .ok (.iload_n 3, 1) := by decide +kernel
theorem dX0_takeState_49 : decode cX0_takeState 49 = .ok (.putfield 21, 3) := by decide +kernel
theorem dX0_takeState_52 : decode cX0_takeState 52 = .ok (.iload_n 1, 1) := by decide +kernel
theorem dX0_takeState_53 : decode cX0_takeState 53 = .ok (.iconst 1, 1) := by decide +kernel
theorem dX0_takeState_54 : decode cX0_takeState 54 = .ok (.if_icmp .ne 8, 3) := by decide +kernel
theorem dX0_takeState_57 : decode cX0_takeState 57 = .ok (.aload_n 0, 1) := by decide +kernel
theorem dX0_takeState_58 : decode cX0_takeState 58 = .ok (.iload_n 2, 1) := by decide +kernel
theorem dX0_takeState_59 : decode cX0_takeState 59 = .ok (.putfield 27, 3) := by decide +kernel
theorem dX0_takeState_62 : decode cX0_takeState 62 = .ok (.iload_n 1, 1) := by decide +kernel
theorem dX0_takeState_63 : decode cX0_takeState 63 = .ok (.iconst 3, 1) := by decide +kernel
theorem dX0_takeState_64 : decode cX0_takeState 64 = .ok (.if_icmp .ne 14, 3) := by decide +kernel
theorem dX0_takeState_67 : decode cX0_takeState 67 = .ok (.aload_n 0, 1) := by decide +kernel
theorem dX0_takeState_68 : decode cX0_takeState 68 = .ok (.iload 4, 2) := by decide +kernel
theorem dX0_takeState_70 : decode cX0_takeState 70 = .ok (.putfield 48, 3) := by decide +kernel
theorem dX0_takeState_73 : decode cX0_takeState 73 = .ok (.aload_n 0, 1) := by decide +kernel
theorem dX0_takeState_74 : decode cX0_takeState 74 = .ok (.iconst (-1), 1) := by decide +kernel
theorem dX0_takeState_75 : decode cX0_takeState 75 = .ok (.putfield 45, 3) := by decide +kernel
theorem dX0_takeState_78 : decode cX0_takeState 78 = .ok (.iload_n 1, 1) := by decide +kernel
theorem dX0_takeState_79 : decode cX0_takeState 79 = .ok (.ifCond .ne 11, 3) := by decide +kernel
theorem dX0_takeState_82 : decode cX0_takeState 82 = .ok (.aload_n 0, 1) := by decide +kernel
theorem dX0_takeState_83 : decode cX0_takeState 83 = .ok (.iload_n 2, 1) := by decide +kernel
theorem dX0_takeState_84 : decode cX0_takeState 84 = .ok (.invokevirtual 74, 3) := by decide +kernel
theorem dX0_takeState_87 : decode cX0_takeState 87 = .ok (.goto 4, 3) := by decide +kernel
theorem dX0_takeState_90 : decode cX0_takeState 90 = .ok (.iconst 0, 1) := by decide +kernel
theorem dX0_takeState_91 : decode cX0_takeState 91 = .ok (.ireturn, 1) := by decide +kernel
theorem dX0_canFollow_0 : decode cX0_canFollow 0 = .ok (.iload_n 0, 1) := by decide +kernel
theorem dX0_canFollow_1 : decode cX0_canFollow 1 = .ok (.tableswitch 237 0 10 #[59, 76, 91, 108, 124, 135, 152, 173, 189, 205, 221], 59) := by decide +kernel
theorem dX0_canFollow_60 : decode cX0_canFollow 60 = .ok (.iload_n 1, 1) := by decide +kernel
theorem dX0_canFollow_61 : decode cX0_canFollow 61 = .ok (.iconst 1, 1) := by decide +kernel
theorem dX0_canFollow_62 : decode cX0_canFollow 62 = .ok (.if_icmp .eq 9, 3) := by decide +kernel
theorem dX0_canFollow_65 : decode cX0_canFollow 65 = .ok (.iload_n 1, 1) := by decide +kernel
theorem dX0_canFollow_66 : decode cX0_canFollow 66 = .ok (.bipush 7, 2) := by decide +kernel
theorem dX0_canFollow_68 : decode cX0_canFollow 68 = .ok (.if_icmp .lt 7, 3) := by decide +kernel
theorem dX0_canFollow_71 : decode cX0_canFollow 71 = .ok (.iconst 1, 1) := by decide +kernel
theorem dX0_canFollow_72 : decode cX0_canFollow 72 = .ok (.goto 4, 3) := by decide +kernel
theorem dX0_canFollow_75 : decode cX0_canFollow 75 = .ok (.iconst 0, 1) := by decide +kernel
theorem dX0_canFollow_76 : decode cX0_canFollow 76 = .ok (.ireturn, 1) := by decide +kernel
theorem dX0_canFollow_77 : decode cX0_canFollow 77 = .ok (.iload_n 1, 1) := by decide +kernel
theorem dX0_canFollow_78 : decode cX0_canFollow 78 = .ok (.iconst 2, 1) := by decide +kernel
theorem dX0_canFollow_79 : decode cX0_canFollow 79 = .ok (.if_icmp .eq 7, 3) := by decide +kernel
theorem dX0_canFollow_82 : decode cX0_canFollow 82 = .ok (.iload_n 1, 1) := by decide +kernel
theorem dX0_canFollow_83 : decode cX0_canFollow 83 = .ok (.ifCond .ne 7, 3) := by decide +kernel
theorem dX0_canFollow_86 : decode cX0_canFollow 86 = .ok (.iconst 1, 1) := by decide +kernel
theorem dX0_canFollow_87 : decode cX0_canFollow 87 = .ok (.goto 4, 3) := by decide +kernel
theorem dX0_canFollow_90 : decode cX0_canFollow 90 = .ok (.iconst 0, 1) := by decide +kernel
theorem dX0_canFollow_91 : decode cX0_canFollow 91 = .ok (.ireturn, 1) := by decide +kernel
theorem dX0_canFollow_92 : decode cX0_canFollow 92 = .ok (.iload_n 1, 1) := by decide +kernel
theorem dX0_canFollow_93 : decode cX0_canFollow 93 = .ok (.iconst 3, 1) := by decide +kernel
theorem dX0_canFollow_94 : decode cX0_canFollow 94 = .ok (.if_icmp .eq 9, 3) := by decide +kernel
theorem dX0_canFollow_97 : decode cX0_canFollow 97 = .ok (.iload_n 1, 1) := by decide +kernel
theorem dX0_canFollow_98 : decode cX0_canFollow 98 = .ok (.bipush 6, 2) := by decide +kernel
theorem dX0_canFollow_100 : decode cX0_canFollow 100 = .ok (.if_icmp .ne 7, 3) := by decide +kernel
theorem dX0_canFollow_103 : decode cX0_canFollow 103 = .ok (.iconst 1, 1) := by decide +kernel
theorem dX0_canFollow_104 : decode cX0_canFollow 104 = .ok (.goto 4, 3) := by decide +kernel
theorem dX0_canFollow_107 : decode cX0_canFollow 107 = .ok (.iconst 0, 1) := by decide +kernel
theorem dX0_canFollow_108 : decode cX0_canFollow 108 = .ok (.ireturn, 1) := by decide +kernel
theorem dX0_canFollow_109 : decode cX0_canFollow 109 = .ok (.iload_n 1, 1) := by decide +kernel
theorem dX0_canFollow_110 : decode cX0_canFollow 110 = .ok (.iconst 4, 1) := by decide +kernel
theorem dX0_canFollow_111 : decode cX0_canFollow 111 = .ok (.if_icmp .eq 8, 3) := by decide +kernel
theorem dX0_canFollow_114 : decode cX0_canFollow 114 = .ok (.iload_n 1, 1) := by decide +kernel
theorem dX0_canFollow_115 : decode cX0_canFollow 115 = .ok (.iconst 5, 1) := by decide +kernel
theorem dX0_canFollow_116 : decode cX0_canFollow 116 = .ok (.if_icmp .ne 7, 3) := by decide +kernel
theorem dX0_canFollow_119 : decode cX0_canFollow 119 = .ok (.iconst 1, 1) := by decide +kernel
theorem dX0_canFollow_120 : decode cX0_canFollow 120 = .ok (.goto 4, 3) := by decide +kernel
theorem dX0_canFollow_123 : decode cX0_canFollow 123 = .ok (.iconst 0, 1) := by decide +kernel
theorem dX0_canFollow_124 : decode cX0_canFollow 124 = .ok (.ireturn, 1) := by decide +kernel
theorem dX0_canFollow_125 : decode cX0_canFollow 125 = .ok (.iload_n 1, 1) := by decide +kernel
theorem dX0_canFollow_126 : decode cX0_canFollow 126 = .ok (.iconst 5, 1) := by decide +kernel
theorem dX0_canFollow_127 : decode cX0_canFollow 127 = .ok (.if_icmp .ne 7, 3) := by decide +kernel
theorem dX0_canFollow_130 : decode cX0_canFollow 130 = .ok (.iconst 1, 1) := by decide +kernel
theorem dX0_canFollow_131 : decode cX0_canFollow 131 = .ok (.goto 4, 3) := by decide +kernel
theorem dX0_canFollow_134 : decode cX0_canFollow 134 = .ok (.iconst 0, 1) := by decide +kernel
theorem dX0_canFollow_135 : decode cX0_canFollow 135 = .ok (.ireturn, 1) := by decide +kernel
theorem dX0_canFollow_136 : decode cX0_canFollow 136 = .ok (.iload_n 1, 1) := by decide +kernel
theorem dX0_canFollow_137 : decode cX0_canFollow 137 = .ok (.iconst 1, 1) := by decide +kernel
theorem dX0_canFollow_138 : decode cX0_canFollow 138 = .ok (.if_icmp .eq 9, 3) := by decide +kernel
theorem dX0_canFollow_141 : decode cX0_canFollow 141 = .ok (.iload_n 1, 1) := by decide +kernel
theorem dX0_canFollow_142 : decode cX0_canFollow 142 = .ok (.bipush 6, 2) := by decide +kernel
theorem dX0_canFollow_144 : decode cX0_canFollow 144 = .ok (.if_icmp .ne 7, 3) := by decide +kernel
theorem dX0_canFollow_147 : decode cX0_canFollow 147 = .ok (.iconst 1, 1) := by decide +kernel
theorem dX0_canFollow_148 : decode cX0_canFollow 148 = .ok (.goto 4, 3) := by decide +kernel
theorem dX0_canFollow_151 : decode cX0_canFollow 151 = .ok (.iconst 0, 1) := by decide +kernel
theorem dX0_canFollow_152 : decode cX0_canFollow 152 = .ok (.ireturn, 1) := by decide +kernel
theorem dX0_canFollow_153 : decode cX0_canFollow 153 = .ok (.iload_n 1, 1) := by decide +kernel
theorem dX0_canFollow_154 : decode cX0_canFollow 154 = .ok (.ifCond .eq 14, 3) := by decide +kernel
theorem dX0_canFollow_157 : decode cX0_canFollow 157 = .ok (.iload_n 1, 1) := by decide +kernel
theorem dX0_canFollow_158 : decode cX0_canFollow 158 = .ok (.iconst 1, 1) := by decide +kernel
theorem dX0_canFollow_159 : decode cX0_canFollow 159 = .ok (.if_icmp .eq 9, 3) := by decide +kernel
theorem dX0_canFollow_162 : decode cX0_canFollow 162 = .ok (.iload_n 1, 1) := by decide +kernel
theorem dX0_canFollow_163 : decode cX0_canFollow 163 = .ok (.bipush 7, 2) := by decide +kernel
theorem dX0_canFollow_165 : decode cX0_canFollow 165 = .ok (.if_icmp .ne 7, 3) := by decide +kernel
theorem dX0_canFollow_168 : decode cX0_canFollow 168 = .ok (.iconst 1, 1) := by decide +kernel
theorem dX0_canFollow_169 : decode cX0_canFollow 169 = .ok (.goto 4, 3) := by decide +kernel
theorem dX0_canFollow_172 : decode cX0_canFollow 172 = .ok (.iconst 0, 1) := by decide +kernel
theorem dX0_canFollow_173 : decode cX0_canFollow 173 = .ok (.ireturn, 1) := by decide +kernel
theorem dX0_canFollow_174 : decode cX0_canFollow 174 = .ok (.iload_n 1, 1) := by decide +kernel
theorem dX0_canFollow_175 : decode cX0_canFollow 175 = .ok (.ifCond .eq 9, 3) := by decide +kernel
theorem dX0_canFollow_178 : decode cX0_canFollow 178 = .ok (.iload_n 1, 1) := by decide +kernel
theorem dX0_canFollow_179 : decode cX0_canFollow 179 = .ok (.bipush 6, 2) := by decide +kernel
theorem dX0_canFollow_181 : decode cX0_canFollow 181 = .ok (.if_icmp .ne 7, 3) := by decide +kernel
theorem dX0_canFollow_184 : decode cX0_canFollow 184 = .ok (.iconst 1, 1) := by decide +kernel
theorem dX0_canFollow_185 : decode cX0_canFollow 185 = .ok (.goto 4, 3) := by decide +kernel
theorem dX0_canFollow_188 : decode cX0_canFollow 188 = .ok (.iconst 0, 1) := by decide +kernel
theorem dX0_canFollow_189 : decode cX0_canFollow 189 = .ok (.ireturn, 1) := by decide +kernel
theorem dX0_canFollow_190 : decode cX0_canFollow 190 = .ok (.iload_n 1, 1) := by decide +kernel
theorem dX0_canFollow_191 : decode cX0_canFollow 191 = .ok (.ifCond .eq 9, 3) := by decide +kernel
theorem dX0_canFollow_194 : decode cX0_canFollow 194 = .ok (.iload_n 1, 1) := by decide +kernel
theorem dX0_canFollow_195 : decode cX0_canFollow 195 = .ok (.bipush 9, 2) := by decide +kernel
theorem dX0_canFollow_197 : decode cX0_canFollow 197 = .ok (.if_icmp .ne 7, 3) := by decide +kernel
theorem dX0_canFollow_200 : decode cX0_canFollow 200 = .ok (.iconst 1, 1) := by decide +kernel
theorem dX0_canFollow_201 : decode cX0_canFollow 201 = .ok (.goto 4, 3) := by decide +kernel
theorem dX0_canFollow_204 : decode cX0_canFollow 204 = .ok (.iconst 0, 1) := by decide +kernel
theorem dX0_canFollow_205 : decode cX0_canFollow 205 = .ok (.ireturn, 1) := by decide +kernel
theorem dX0_canFollow_206 : decode cX0_canFollow 206 = .ok (.iload_n 1, 1) := by decide +kernel
theorem dX0_canFollow_207 : decode cX0_canFollow 207 = .ok (.ifCond .eq 9, 3) := by decide +kernel
theorem dX0_canFollow_210 : decode cX0_canFollow 210 = .ok (.iload_n 1, 1) := by decide +kernel
theorem dX0_canFollow_211 : decode cX0_canFollow 211 = .ok (.bipush 8, 2) := by decide +kernel
theorem dX0_canFollow_213 : decode cX0_canFollow 213 = .ok (.if_icmp .ne 7, 3) := by decide +kernel
theorem dX0_canFollow_216 : decode cX0_canFollow 216 = .ok (.iconst 1, 1) := by decide +kernel
theorem dX0_canFollow_217 : decode cX0_canFollow 217 = .ok (.goto 4, 3) := by decide +kernel
theorem dX0_canFollow_220 : decode cX0_canFollow 220 = .ok (.iconst 0, 1) := by decide +kernel
theorem dX0_canFollow_221 : decode cX0_canFollow 221 = .ok (.ireturn, 1) := by decide +kernel
theorem dX0_canFollow_222 : decode cX0_canFollow 222 = .ok (.iload_n 1, 1) := by decide +kernel
theorem dX0_canFollow_223 : decode cX0_canFollow 223 = .ok (.ifCond .eq 9, 3) := by decide +kernel
theorem dX0_canFollow_226 : decode cX0_canFollow 226 = .ok (.iload_n 1, 1) := by decide +kernel
theorem dX0_canFollow_227 : decode cX0_canFollow 227 = .ok (.bipush 9, 2) := by decide +kernel
theorem dX0_canFollow_229 : decode cX0_canFollow 229 = .ok (.if_icmp .ne 7, 3) := by decide +kernel
theorem dX0_canFollow_232 : decode cX0_canFollow 232 = .ok (.iconst 1, 1) := by decide +kernel
theorem dX0_canFollow_233 : decode cX0_canFollow 233 = .ok (.goto 4, 3) := by decide +kernel
theorem dX0_canFollow_236 : decode cX0_canFollow 236 = .ok (.iconst 0, 1) := by decide +kernel
theorem dX0_canFollow_237 : decode cX0_canFollow 237 = .ok (.ireturn, 1) := by decide +kernel
theorem dX0_canFollow_238 : decode cX0_canFollow 238 = .ok (.iconst 0, 1) := by decide +kernel
theorem dX0_canFollow_239 : decode cX0_canFollow 239 = .ok (.ireturn, 1) := by decide +kernel
theorem dX0_needsCrew_0 : decode cX0_needsCrew 0 = .ok (.iload_n 0, 1) := by decide +kernel
theorem dX0_needsCrew_1 : decode cX0_needsCrew 1 = .ok (.iconst 2, 1) := by decide +kernel
theorem dX0_needsCrew_2 : decode cX0_needsCrew 2 = .ok (.if_icmp .lt 12, 3) := by decide +kernel
theorem dX0_needsCrew_5 : decode cX0_needsCrew 5 = .ok (.iload_n 0, 1) := by decide +kernel
theorem dX0_needsCrew_6 : decode cX0_needsCrew 6 = .ok (.iconst 4, 1) := by decide +kernel
theorem dX0_needsCrew_7 : decode cX0_needsCrew 7 = .ok (.if_icmp .gt 7, 3) := by decide +kernel
theorem dX0_needsCrew_10 : decode cX0_needsCrew 10 = .ok (.iconst 1, 1) := by decide +kernel
theorem dX0_needsCrew_11 : decode cX0_needsCrew 11 = .ok (.goto 4, 3) := by decide +kernel
theorem dX0_needsCrew_14 : decode cX0_needsCrew 14 = .ok (.iconst 0, 1) := by decide +kernel
theorem dX0_needsCrew_15 : decode cX0_needsCrew 15 = .ok (.ireturn, 1) := by decide +kernel
theorem dX0_drivenUpTo_0 : decode cX0_drivenUpTo 0 = .ok (.iload_n 1, 1) := by decide +kernel
theorem dX0_drivenUpTo_1 : decode cX0_drivenUpTo 1 = .ok (.aload_n 0, 1) := by decide +kernel
theorem dX0_drivenUpTo_2 : decode cX0_drivenUpTo 2 = .ok (.getfield 21, 3) := by decide +kernel
theorem dX0_drivenUpTo_5 : decode cX0_drivenUpTo 5 = .ok (.isub, 1) := by decide +kernel
theorem dX0_drivenUpTo_6 : decode cX0_drivenUpTo 6 = .ok (.istore_n 2, 1) := by decide +kernel
theorem dX0_drivenUpTo_7 : decode cX0_drivenUpTo 7 = .ok (.aload_n 0, 1) := by decide +kernel
theorem dX0_drivenUpTo_8 : decode cX0_drivenUpTo 8 = .ok (.getfield 18, 3) := by decide +kernel
theorem dX0_drivenUpTo_11 : decode cX0_drivenUpTo 11 = .ok (.iconst 2, 1) := by decide +kernel
theorem dX0_drivenUpTo_12 : decode cX0_drivenUpTo 12 = .ok (.if_icmp .eq 12, 3) := by decide +kernel
theorem dX0_drivenUpTo_15 : decode cX0_drivenUpTo 15 = .ok (.aload_n 0, 1) := by decide +kernel
theorem dX0_drivenUpTo_16 : decode cX0_drivenUpTo 16 = .ok (.getfield 18, 3) := by decide +kernel
theorem dX0_drivenUpTo_19 : decode cX0_drivenUpTo 19 = .ok (.bipush 6, 2) := by decide +kernel
theorem dX0_drivenUpTo_21 : decode cX0_drivenUpTo 21 = .ok (.if_icmp .ne 10, 3) := by decide +kernel
theorem dX0_drivenUpTo_24 : decode cX0_drivenUpTo 24 = .ok (.aload_n 0, 1) := by decide +kernel
theorem dX0_drivenUpTo_25 : decode cX0_drivenUpTo 25 = .ok (.getfield 51, 3) := by decide +kernel
theorem dX0_drivenUpTo_28 : decode cX0_drivenUpTo 28 = .ok (.iload_n 2, 1) := by decide +kernel
theorem dX0_drivenUpTo_29 : decode cX0_drivenUpTo 29 = .ok (.iadd, 1) := by decide +kernel
theorem dX0_drivenUpTo_30 : decode cX0_drivenUpTo 30 = .ok (.ireturn, 1) := by decide +kernel
theorem dX0_drivenUpTo_31 : decode cX0_drivenUpTo 31 = .ok (.aload_n 0, 1) := by decide +kernel
theorem dX0_drivenUpTo_32 : decode cX0_drivenUpTo 32 = .ok (.invokevirtual 77, 3) := by decide +kernel
theorem dX0_drivenUpTo_35 : decode cX0_drivenUpTo 35 = .ok (.ifCond .eq 13, 3) := by decide +kernel
theorem dX0_drivenUpTo_38 : decode cX0_drivenUpTo 38 = .ok (.iload_n 2, 1) := by decide +kernel
theorem dX0_drivenUpTo_39 : decode cX0_drivenUpTo 39 = .ok (.bipush 30, 2) := by decide +kernel
theorem dX0_drivenUpTo_41 : decode cX0_drivenUpTo 41 = .ok (.if_icmp .lt 7, 3) := by decide +kernel
theorem dX0_drivenUpTo_44 : decode cX0_drivenUpTo 44 = .ok (.iconst 0, 1) := by decide +kernel
theorem dX0_drivenUpTo_45 : decode cX0_drivenUpTo 45 = .ok (.goto 7, 3) := by decide +kernel
theorem dX0_drivenUpTo_48 : decode cX0_drivenUpTo 48 = .ok (.aload_n 0, 1) := by decide +kernel
theorem dX0_drivenUpTo_49 : decode cX0_drivenUpTo 49 = .ok (.getfield 51, 3) := by decide +kernel
theorem dX0_drivenUpTo_52 : decode cX0_drivenUpTo 52 = .ok (.ireturn, 1) := by decide +kernel
theorem dX0_isRestful_0 : decode cX0_isRestful 0 = .ok (.aload_n 0, 1) := by decide +kernel
theorem dX0_isRestful_1 : decode cX0_isRestful 1 = .ok (.getfield 18, 3) := by decide +kernel
theorem dX0_isRestful_4 : decode cX0_isRestful 4 = .ok (.ifCond .eq 12, 3) := by decide +kernel
theorem dX0_isRestful_7 : decode cX0_isRestful 7 = .ok (.aload_n 0, 1) := by decide +kernel
theorem dX0_isRestful_8 : decode cX0_isRestful 8 = .ok (.getfield 18, 3) := by decide +kernel
theorem dX0_isRestful_11 : decode cX0_isRestful 11 = .ok (.bipush 7, 2) := by decide +kernel
theorem dX0_isRestful_13 : decode cX0_isRestful 13 = .ok (.if_icmp .lt 7, 3) := by decide +kernel
theorem dX0_isRestful_16 : decode cX0_isRestful 16 = .ok (.iconst 1, 1) := by decide +kernel
theorem dX0_isRestful_17 : decode cX0_isRestful 17 = .ok (.goto 4, 3) := by decide +kernel
theorem dX0_isRestful_20 : decode cX0_isRestful 20 = .ok (.iconst 0, 1) := by decide +kernel
theorem dX0_isRestful_21 : decode cX0_isRestful 21 = .ok (.ireturn, 1) := by decide +kernel
theorem dX0_takeStation_0 : decode cX0_takeStation 0 = .ok (.aload_n 0, 1) := by decide +kernel
theorem dX0_takeStation_1 : decode cX0_takeStation 1 = .ok (.iload_n 1, 1) := by decide +kernel
theorem dX0_takeStation_2 : decode cX0_takeStation 2 = .ok (.putfield 24, 3) := by decide +kernel
theorem dX0_takeStation_5 : decode cX0_takeStation 5 = .ok (.aload_n 0, 1) := by decide +kernel
theorem dX0_takeStation_6 : decode cX0_takeStation 6 = .ok (.getfield 24, 3) := by decide +kernel
theorem dX0_takeStation_9 : decode cX0_takeStation 9 = .ok (.aload_n 0, 1) := by decide +kernel
theorem dX0_takeStation_10 : decode cX0_takeStation 10 = .ok (.getfield 9, 3) := by decide +kernel
theorem dX0_takeStation_13 : decode cX0_takeStation 13 = .ok (.if_icmp .ne 7, 3) := by decide +kernel
theorem dX0_takeStation_16 : decode cX0_takeStation 16 = .ok (.iconst 0, 1) := by decide +kernel
theorem dX0_takeStation_17 : decode cX0_takeStation 17 = .ok (.goto 4, 3) := by decide +kernel
theorem dX0_takeStation_20 : decode cX0_takeStation 20 = .ok (.iconst 3, 1) := by decide +kernel
theorem dX0_takeStation_21 : decode cX0_takeStation 21 = .ok (.ireturn, 1) := by decide +kernel
theorem dX0_stationNow_0 : decode cX0_stationNow 0 = .ok (.aload_n 0, 1) := by decide +kernel
theorem dX0_stationNow_1 : decode cX0_stationNow 1 = .ok (.getfield 18, 3) := by decide +kernel
theorem dX0_stationNow_4 : decode cX0_stationNow 4 = .ok (.ifCond .ne 10, 3) := by decide +kernel
theorem dX0_stationNow_7 : decode cX0_stationNow 7 = .ok (.aload_n 0, 1) := by decide +kernel
theorem dX0_stationNow_8 : decode cX0_stationNow 8 = .ok (.getfield 24, 3) := by decide +kernel
theorem dX0_stationNow_11 : decode cX0_stationNow 11 = .ok (.goto 4, 3) := by decide +kernel
theorem dX0_stationNow_14 : decode cX0_stationNow 14 = .ok (.iconst (-1), 1) := by decide +kernel
theorem dX0_stationNow_15 : decode cX0_stationNow 15 = .ok (.ireturn, 1) := by decide +kernel
theorem dX0_incidentNow_0 : decode cX0_incidentNow 0 = .ok (.aload_n 0, 1) := by decide +kernel
theorem dX0_incidentNow_1 : decode cX0_incidentNow 1 = .ok (.getfield 18, 3) := by decide +kernel
theorem dX0_incidentNow_4 : decode cX0_incidentNow 4 = .ok (.iconst 1, 1) := by decide +kernel
theorem dX0_incidentNow_5 : decode cX0_incidentNow 5 = .ok (.if_icmp .lt 18, 3) := by decide +kernel
theorem dX0_incidentNow_8 : decode cX0_incidentNow 8 = .ok (.aload_n 0, 1) := by decide +kernel
theorem dX0_incidentNow_9 : decode cX0_incidentNow 9 = .ok (.getfield 18, 3) := by decide +kernel
theorem dX0_incidentNow_12 : decode cX0_incidentNow 12 = .ok (.iconst 5, 1) := by decide +kernel
theorem dX0_incidentNow_13 : decode cX0_incidentNow 13 = .ok (.if_icmp .gt 10, 3) := by decide +kernel
theorem dX0_incidentNow_16 : decode cX0_incidentNow 16 = .ok (.aload_n 0, 1) := by decide +kernel
theorem dX0_incidentNow_17 : decode cX0_incidentNow 17 = .ok (.getfield 27, 3) := by decide +kernel
theorem dX0_incidentNow_20 : decode cX0_incidentNow 20 = .ok (.goto 4, 3) := by decide +kernel
theorem dX0_incidentNow_23 : decode cX0_incidentNow 23 = .ok (.iconst (-1), 1) := by decide +kernel
theorem dX0_incidentNow_24 : decode cX0_incidentNow 24 = .ok (.ireturn, 1) := by decide +kernel
theorem dX0_isSendable_0 : decode cX0_isSendable 0 = .ok (.aload_n 0, 1) := by decide +kernel
theorem dX0_isSendable_1 : decode cX0_isSendable 1 = .ok (.getfield 18, 3) := by decide +kernel
theorem dX0_isSendable_4 : decode cX0_isSendable 4 = .ok (.ifCond .eq 20, 3) := by decide +kernel
theorem dX0_isSendable_7 : decode cX0_isSendable 7 = .ok (.aload_n 0, 1) := by decide +kernel
theorem dX0_isSendable_8 : decode cX0_isSendable 8 = .ok (.getfield 18, 3) := by decide +kernel
theorem dX0_isSendable_11 : decode cX0_isSendable 11 = .ok (.iconst 5, 1) := by decide +kernel
theorem dX0_isSendable_12 : decode cX0_isSendable 12 = .ok (.if_icmp .eq 12, 3) := by decide +kernel
theorem dX0_isSendable_15 : decode cX0_isSendable 15 = .ok (.aload_n 0, 1) := by decide +kernel
theorem dX0_isSendable_16 : decode cX0_isSendable 16 = .ok (.getfield 18, 3) := by decide +kernel
theorem dX0_isSendable_19 : decode cX0_isSendable 19 = .ok (.bipush 6, 2) := by decide +kernel
theorem dX0_isSendable_21 : decode cX0_isSendable 21 = .ok (.if_icmp .ne 37, 3) := by decide +kernel
theorem dX0_isSendable_24 : decode cX0_isSendable 24 = .ok (.aload_n 0, 1) := by decide +kernel
theorem dX0_isSendable_25 : decode cX0_isSendable 25 = .ok (.getfield 30, 3) := by decide +kernel
theorem dX0_isSendable_28 : decode cX0_isSendable 28 = .ok (.aload_n 0, 1) := by decide +kernel
theorem dX0_isSendable_29 : decode cX0_isSendable 29 = .ok (.getfield 15, 3) := by decide +kernel
theorem dX0_isSendable_32 : decode cX0_isSendable 32 = .ok (.if_icmp .lt 26, 3) := by decide +kernel
theorem dX0_isSendable_35 : decode cX0_isSendable 35 = .ok (.aload_n 0, 1) := by decide +kernel
theorem dX0_isSendable_36 : decode cX0_isSendable 36 = .ok (.getfield 36, 3) := by decide +kernel
theorem dX0_isSendable_39 : decode cX0_isSendable 39 = .ok (.iconst 1, 1) := by decide +kernel
theorem dX0_isSendable_40 : decode cX0_isSendable 40 = .ok (.if_icmp .ne 18, 3) := by decide +kernel
theorem dX0_isSendable_43 : decode cX0_isSendable 43 = .ok (.aload_n 0, 1) := by decide +kernel
theorem dX0_isSendable_44 : decode cX0_isSendable 44 = .ok (.iload_n 1, 1) := by decide +kernel
theorem dX0_isSendable_45 : decode cX0_isSendable 45 = .ok (.invokevirtual 70, 3) := by decide +kernel
theorem dX0_isSendable_48 : decode cX0_isSendable 48 = .ok (.sipush 240, 3) := by decide +kernel
theorem dX0_isSendable_51 : decode cX0_isSendable 51 = .ok (.if_icmp .ge 7, 3) := by decide +kernel
theorem dX0_isSendable_54 : decode cX0_isSendable 54 = .ok (.iconst 1, 1) := by decide +kernel
theorem dX0_isSendable_55 : decode cX0_isSendable 55 = .ok (.goto 4, 3) := by decide +kernel
theorem dX0_isSendable_58 : decode cX0_isSendable 58 = .ok (.iconst 0, 1) := by decide +kernel
theorem dX0_isSendable_59 : decode cX0_isSendable 59 = .ok (.ireturn, 1) := by decide +kernel
theorem dX0_isThereAt_0 : decode cX0_isThereAt 0 = .ok (.aload_n 0, 1) := by decide +kernel
theorem dX0_isThereAt_1 : decode cX0_isThereAt 1 = .ok (.getfield 18, 3) := by decide +kernel
theorem dX0_isThereAt_4 : decode cX0_isThereAt 4 = .ok (.iconst 3, 1) := by decide +kernel
theorem dX0_isThereAt_5 : decode cX0_isThereAt 5 = .ok (.if_icmp .lt 23, 3) := by decide +kernel
theorem dX0_isThereAt_8 : decode cX0_isThereAt 8 = .ok (.aload_n 0, 1) := by decide +kernel
theorem dX0_isThereAt_9 : decode cX0_isThereAt 9 = .ok (.getfield 18, 3) := by decide +kernel
theorem dX0_isThereAt_12 : decode cX0_isThereAt 12 = .ok (.iconst 5, 1) := by decide +kernel
theorem dX0_isThereAt_13 : decode cX0_isThereAt 13 = .ok (.if_icmp .gt 15, 3) := by decide +kernel
theorem dX0_isThereAt_16 : decode cX0_isThereAt 16 = .ok (.aload_n 0, 1) := by decide +kernel
theorem dX0_isThereAt_17 : decode cX0_isThereAt 17 = .ok (.getfield 27, 3) := by decide +kernel
theorem dX0_isThereAt_20 : decode cX0_isThereAt 20 = .ok (.iload_n 1, 1) := by decide +kernel
theorem dX0_isThereAt_21 : decode cX0_isThereAt 21 = .ok (.if_icmp .ne 7, 3) := by decide +kernel
theorem dX0_isThereAt_24 : decode cX0_isThereAt 24 = .ok (.iconst 1, 1) := by decide +kernel
theorem dX0_isThereAt_25 : decode cX0_isThereAt 25 = .ok (.goto 4, 3) := by decide +kernel
theorem dX0_isThereAt_28 : decode cX0_isThereAt 28 = .ok (.iconst 0, 1) := by decide +kernel
theorem dX0_isThereAt_29 : decode cX0_isThereAt 29 = .ok (.ireturn, 1) := by decide +kernel
