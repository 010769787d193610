theorem dX1_init_0 : decode cX1_init 0 = .ok (.aload_n 0, 1) := by decide +kernel
theorem dX1_init_1 : decode cX1_init 1 = .ok (.invokespecial 3, 3) := by decide +kernel
theorem dX1_init_4 : decode cX1_init 4 = .ok (.aload_n 0, 1) := by decide +kernel
theorem dX1_init_5 : decode cX1_init 5 = .ok (.bipush 30, 2) := by decide +kernel
theorem dX1_init_7 : decode cX1_init 7 = .ok (.anewarray 9, 3) := by decide +kernel
theorem dX1_init_10 : decode cX1_init 10 = .ok (.putfield 11, 3) := by decide +kernel
theorem dX1_init_13 : decode cX1_init 13 = .ok (.aload_n 0, 1) := by decide +kernel
theorem dX1_init_14 : decode cX1_init 14 = .ok (.sipush 200, 3) := by decide +kernel
theorem dX1_init_17 : decode cX1_init 17 = .ok (.newarray .int, 2) := by decide +kernel
theorem dX1_init_19 : decode cX1_init 19 = .ok (.putfield 15, 3) := by decide +kernel
theorem dX1_init_22 : decode cX1_init 22 = .ok (.aload_n 0, 1) := by decide +kernel
theorem dX1_init_23 : decode cX1_init 23 = .ok (.sipush 200, 3) := by decide +kernel
theorem dX1_init_26 : decode cX1_init 26 = .ok (.newarray .int, 2) := by decide +kernel
theorem dX1_init_28 : decode cX1_init 28 = .ok (.putfield 19, 3) := by decide +kernel
theorem dX1_init_31 : decode cX1_init 31 = .ok (.aload_n 0, 1) := by decide +kernel
theorem dX1_init_32 : decode cX1_init 32 = .ok (.sipush 200, 3) := by decide +kernel
theorem dX1_init_35 : decode cX1_init 35 = .ok (.newarray .int, 2) := by decide +kernel
theorem dX1_init_37 : decode cX1_init 37 = .ok (.putfield 22, 3) := by decide +kernel
theorem dX1_init_40 : decode cX1_init 40 = .ok (.aload_n 0, 1) := by decide +kernel
theorem dX1_init_41 : decode cX1_init 41 = .ok (.sipush 200, 3) := by decide +kernel
theorem dX1_init_44 : decode cX1_init 44 = .ok (.newarray .int, 2) := by decide +kernel
theorem dX1_init_46 : decode cX1_init 46 = .ok (.putfield 25, 3) := by decide +kernel
theorem dX1_init_49 : decode cX1_init 49 = .ok (.aload_n 0, 1) := by decide +kernel
theorem dX1_init_50 : decode cX1_init 50 = .ok (.sipush 200, 3) := by decide +kernel
theorem dX1_init_53 : decode cX1_init 53 = .ok (.newarray .int, 2) := by decide +kernel
theorem dX1_init_55 : decode cX1_init 55 = .ok (.putfield 28, 3) := by decide +kernel
theorem dX1_init_58 : decode cX1_init 58 = .ok (.aload_n 0, 1) := by decide +kernel
theorem dX1_init_59 : decode cX1_init 59 = .ok (.sipush 200, 3) := by decide +kernel
theorem dX1_init_62 : decode cX1_init 62 = .ok (.newarray .int, 2) := by decide +kernel
theorem dX1_init_64 : decode cX1_init 64 = .ok (.putfield 31, 3) := by decide +kernel
theorem dX1_init_67 : decode cX1_init 67 = .ok (.iconst 0, 1) := by decide +kernel
theorem dX1_init_68 : decode cX1_init 68 = .ok (.istore_n 1, 1) := by decide +kernel
theorem dX1_init_69 : decode cX1_init 69 = .ok (.iload_n 1, 1) := by decide +kernel
theorem dX1_init_70 : decode cX1_init 70 = .ok (.bipush 30, 2) := by decide +kernel
theorem dX1_init_72 : decode cX1_init 72 = .ok (.if_icmp .ge 22, 3) := by decide +kernel
theorem dX1_init_75 : decode cX1_init 75 = .ok (.aload_n 0, 1) := by decide +kernel
theorem dX1_init_76 : decode cX1_init 76 = .ok (.getfield 11, 3) := by decide +kernel
theorem dX1_init_79 : decode cX1_init 79 = .ok (.iload_n 1, 1) := by decide +kernel
theorem dX1_init_80 : decode cX1_init 80 = .ok (.new 9, 3) := by decide +kernel
theorem dX1_init_83 : decode cX1_init 83 = .ok (.dup, 1) := by decide +kernel
theorem dX1_init_84 : decode cX1_init 84 = .ok (.invokespecial 34, 3) := by decide +kernel
theorem dX1_init_87 : decode cX1_init 87 = .ok (.aastore, 1) := by decide +kernel
theorem dX1_init_88 : decode cX1_init 88 = .ok (.iinc 1 1, 3) := by decide +kernel
theorem dX1_init_91 : decode cX1_init 91 = .ok (.goto (-22), 3) := by decide +kernel
theorem dX1_init_94 : decode cX1_init 94 = .ok (.return_, 1) := by decide +kernel
theorem dX1_unit_0 : decode cX1_unit 0 = .ok (.iload_n 1, 1) := by decide +kernel
theorem dX1_unit_1 : decode cX1_unit 1 = .ok (.bipush 9, 2) := by decide +kernel
theorem dX1_unit_3 : decode cX1_unit 3 = .ok (.invokestatic 35, 3) := by decide +kernel
theorem dX1_unit_6 : decode cX1_unit 6 = .ok (.ifCond .ne 13, 3) := by decide +kernel
theorem dX1_unit_9 : decode cX1_unit 9 = .ok (.new 39, 3) := by decide +kernel
theorem dX1_unit_12 : decode cX1_unit 12 = .ok (.dup, 1) := by decide +kernel
theorem dX1_unit_13 : decode cX1_unit 13 = .ok (.ldc 41, 2) := by decide +kernel
theorem dX1_unit_15 : decode cX1_unit 15 = .ok (.invokespecial 43, 3) := by decide +kernel
theorem dX1_unit_18 : decode cX1_unit 18 = .ok (.athrow, 1) := by decide +kernel
theorem dX1_unit_19 : decode cX1_unit 19 = .ok (.iload_n 2, 1) := by decide +kernel
theorem dX1_unit_20 : decode cX1_unit 20 = .ok (.bipush 9, 2) := by decide +kernel
theorem dX1_unit_22 : decode cX1_unit 22 = .ok (.invokestatic 35, 3) := by decide +kernel
theorem dX1_unit_25 : decode cX1_unit 25 = .ok (.ifCond .ne 13, 3) := by decide +kernel
theorem dX1_unit_28 : decode cX1_unit 28 = .ok (.new 39, 3) := by decide +kernel
theorem dX1_unit_31 : decode cX1_unit 31 = .ok (.dup, 1) := by decide +kernel
theorem dX1_unit_32 : decode cX1_unit 32 = .ok (.ldc 46, 2) := by decide +kernel
theorem dX1_unit_34 : decode cX1_unit 34 = .ok (.invokespecial 43, 3) := by decide +kernel
theorem dX1_unit_37 : decode cX1_unit 37 = .ok (.athrow, 1) := by decide +kernel
theorem dX1_unit_38 : decode cX1_unit 38 = .ok (.aload_n 0, 1) := by decide +kernel
theorem dX1_unit_39 : decode cX1_unit 39 = .ok (.getfield 48, 3) := by decide +kernel
theorem dX1_unit_42 : decode cX1_unit 42 = .ok (.bipush 30, 2) := by decide +kernel
theorem dX1_unit_44 : decode cX1_unit 44 = .ok (.if_icmp .lt 13, 3) := by decide +kernel
theorem dX1_unit_47 : decode cX1_unit 47 = .ok (.new 52, 3) := by decide +kernel
theorem dX1_unit_50 : decode cX1_unit 50 = .ok (.dup, 1) := by decide +kernel
theorem dX1_unit_51 : decode cX1_unit 51 = .ok (.ldc 54, 2) := by decide +kernel
theorem dX1_unit_53 : decode cX1_unit 53 = .ok (.invokespecial 56, 3) := by decide +kernel
theorem dX1_unit_56 : decode cX1_unit 56 = .ok (.athrow, 1) := by decide +kernel
theorem dX1_unit_57 : decode cX1_unit 57 = .ok (.aload_n 0, 1) := by decide +kernel
theorem dX1_unit_58 : decode cX1_unit 58 = .ok (.getfield 11, 3) := by decide +kernel
theorem dX1_unit_61 : decode cX1_unit 61 = .ok (.aload_n 0, 1) := by decide +kernel
theorem dX1_unit_62 : decode cX1_unit 62 = .ok (.getfield 48, 3) := by decide +kernel
theorem dX1_unit_65 : decode cX1_unit 65 = .ok (.aaload, 1) := by decide +kernel
theorem dX1_unit_66 : decode cX1_unit 66 = .ok (.iload_n 1, 1) := by decide +kernel
theorem dX1_unit_67 : decode cX1_unit 67 = .ok (.iload_n 2, 1) := by decide +kernel
theorem dX1_unit_68 : decode cX1_unit 68 = .ok (.invokevirtual 57, 3) := by decide +kernel
theorem dX1_unit_71 : decode cX1_unit 71 = .ok (.aload_n 0, 1) := by decide +kernel
theorem dX1_unit_72 : decode cX1_unit 72 = .ok (.dup, 1) := by decide +kernel
theorem dX1_unit_73 : decode cX1_unit 73 = .ok (.getfield 48, 3) := by decide +kernel
theorem dX1_unit_76 : decode cX1_unit 76 = .ok (.dup_x1, 1) := by decide +kernel
theorem dX1_unit_77 : decode cX1_unit 77 = .ok (.iconst 1, 1) := by decide +kernel
theorem dX1_unit_78 : decode cX1_unit 78 = .ok (.iadd, 1) := by decide +kernel
theorem dX1_unit_79 : decode cX1_unit 79 = .ok (.putfield 48, 3) := by decide +kernel
theorem dX1_unit_82 : decode cX1_unit 82 = .ok (.ireturn, 1) := by decide +kernel
theorem dX1_isWithin_0 : decode cX1_isWithin 0 = .ok (.iload_n 0, 1) := by decide +kernel
theorem dX1_isWithin_1 : decode cX1_isWithin 1 = .ok (.ifCond .lt 12, 3) := by decide +kernel
theorem dX1_isWithin_4 : decode cX1_isWithin 4 = .ok (.iload_n 0, 1) := by decide +kernel
theorem dX1_isWithin_5 : decode cX1_isWithin 5 = .ok (.iload_n 1, 1) := by decide +kernel
theorem dX1_isWithin_6 : decode cX1_isWithin 6 = .ok (.if_icmp .gt 7, 3) := by decide +kernel
theorem dX1_isWithin_9 : decode cX1_isWithin 9 = .ok (.iconst 1, 1) := by decide +kernel
theorem dX1_isWithin_10 : decode cX1_isWithin 10 = .ok (.goto 4, 3) := by decide +kernel
theorem dX1_isWithin_13 : decode cX1_isWithin 13 = .ok (.iconst 0, 1) := by decide +kernel
theorem dX1_isWithin_14 : decode cX1_isWithin 14 = .ok (.ireturn, 1) := by decide +kernel
theorem dX1_message_0 : decode cX1_message 0 = .ok (.aload_n 0, 1) := by decide +kernel
theorem dX1_message_1 : decode cX1_message 1 = .ok (.iload_n 1, 1) := by decide +kernel
theorem dX1_message_2 : decode cX1_message 2 = .ok (.invokevirtual 61, 3) := by decide +kernel
theorem dX1_message_5 : decode cX1_message 5 = .ok (.ifCond .ne 23, 3) := by decide +kernel
theorem dX1_message_8 : decode cX1_message 8 = .ok (.aload_n 0, 1) := by decide +kernel
theorem dX1_message_9 : decode cX1_message 9 = .ok (.dup, 1) := by decide +kernel
theorem dX1_message_10 : decode cX1_message 10 = .ok (.getfield 65, 3) := by decide +kernel
theorem dX1_message_13 : decode cX1_message 13 = .ok (.iconst 1, 1) := by decide +kernel
theorem dX1_message_14 : decode cX1_message 14 = .ok (.iadd, 1) := by decide +kernel
theorem dX1_message_15 : decode cX1_message 15 = .ok (.putfield 65, 3) := by decide +kernel
theorem dX1_message_18 : decode cX1_message 18 = .ok (.new 68, 3) := by decide +kernel
theorem dX1_message_21 : decode cX1_message 21 = .ok (.dup, 1) := by decide +kernel
theorem dX1_message_22 : decode cX1_message 22 = .ok (.ldc 70, 2) := by decide +kernel
theorem dX1_message_24 : decode cX1_message 24 = .ok (.invokespecial 72, 3) := by decide +kernel
theorem dX1_message_27 : decode cX1_message 27 = .ok (.athrow, 1) := by decide +kernel
theorem dX1_message_28 : decode cX1_message 28 = .ok (.iload_n 3, 1) := by decide +kernel
theorem dX1_message_29 : decode cX1_message 29 = .ok (.bipush 15, 2) := by decide +kernel
theorem dX1_message_31 : decode cX1_message 31 = .ok (.invokestatic 35, 3) := by decide +kernel
theorem dX1_message_34 : decode cX1_message 34 = .ok (.ifCond .ne 13, 3) := by decide +kernel
theorem dX1_message_37 : decode cX1_message 37 = .ok (.new 68, 3) := by decide +kernel
theorem dX1_message_40 : decode cX1_message 40 = .ok (.dup, 1) := by decide +kernel
theorem dX1_message_41 : decode cX1_message 41 = .ok (.ldc 73, 2) := by decide +kernel
theorem dX1_message_43 : decode cX1_message 43 = .ok (.invokespecial 72, 3) := by decide +kernel
theorem dX1_message_46 : decode cX1_message 46 = .ok (.athrow, 1) := by decide +kernel
theorem dX1_message_47 : decode cX1_message 47 = .ok (.iload_n 2, 1) := by decide +kernel
theorem dX1_message_48 : decode cX1_message 48 = .ok (.invokestatic 75, 3) := by decide +kernel
theorem dX1_message_51 : decode cX1_message 51 = .ok (.iload_n 3, 1) := by decide +kernel
theorem dX1_message_52 : decode cX1_message 52 = .ok (.iload 4, 2) := by decide +kernel
theorem dX1_message_54 : decode cX1_message 54 = .ok (.invokestatic 79, 3) := by decide +kernel
theorem dX1_message_57 : decode cX1_message 57 = .ok (.ifCond .ne 13, 3) := by decide +kernel
theorem dX1_message_60 : decode cX1_message 60 = .ok (.new 39, 3) := by decide +kernel
theorem dX1_message_63 : decode cX1_message 63 = .ok (.dup, 1) := by decide +kernel
theorem dX1_message_64 : decode cX1_message 64 = .ok (.ldc 82, 2) := by decide +kernel
theorem dX1_message_66 : decode cX1_message 66 = .ok (.invokespecial 43, 3) := by decide +kernel
theorem dX1_message_69 : decode cX1_message 69 = .ok (.athrow, 1) := by decide +kernel
theorem dX1_message_70 : decode cX1_message 70 = .ok (.aload_n 0, 1) := by decide +kernel
theorem dX1_message_71 : decode cX1_message 71 = .ok (.getfield 84, 3) := by decide +kernel
theorem dX1_message_74 : decode cX1_message 74 = .ok (.sipush 200, 3) := by decide +kernel
theorem dX1_message_77 : decode cX1_message 77 = .ok (.if_icmp .lt 13, 3) := by decide +kernel
theorem dX1_message_80 : decode cX1_message 80 = .ok (.new 52, 3) := by decide +kernel
theorem dX1_message_83 : decode cX1_message 83 = .ok (.dup, 1) := by decide +kernel
theorem dX1_message_84 : decode cX1_message 84 = .ok (.ldc 87, 2) := by decide +kernel
theorem dX1_message_86 : decode cX1_message 86 = .ok (.invokespecial 56, 3) := by decide +kernel
theorem dX1_message_89 : decode cX1_message 89 = .ok (.athrow, 1) := by decide +kernel
theorem dX1_message_90 : decode cX1_message 90 = .ok (.aload_n 0, 1) := by decide +kernel
theorem dX1_message_91 : decode cX1_message 91 = .ok (.getfield 15, 3) := by decide +kernel
theorem dX1_message_94 : decode cX1_message 94 = .ok (.aload_n 0, 1) := by decide +kernel
theorem dX1_message_95 : decode cX1_message 95 = .ok (.getfield 84, 3) := by decide +kernel
theorem dX1_message_98 : decode cX1_message 98 = .ok (.iload_n 1, 1) := by decide +kernel
theorem dX1_message_99 : decode cX1_message 99 = .ok (.iastore, 1) := by decide +kernel
theorem dX1_message_100 : decode cX1_message 100 = .ok (.aload_n 0, 1) := by decide +kernel
theorem dX1_message_101 : decode cX1_message 101 = .ok (.getfield 19, 3) := by decide +kernel
theorem dX1_message_104 : decode cX1_message 104 = .ok (.aload_n 0, 1) := by decide +kernel
theorem dX1_message_105 : decode cX1_message 105 = .ok (.getfield 84, 3) := by decide +kernel
theorem dX1_message_108 : decode cX1_message 108 = .ok (.iload_n 2, 1) := by decide +kernel
theorem dX1_message_109 : decode cX1_message 109 = .ok (.iastore, 1) := by decide +kernel
theorem dX1_message_110 : decode cX1_message 110 = .ok (.aload_n 0, 1) := by decide +kernel
theorem dX1_message_111 : decode cX1_message 111 = .ok (.getfield 22, 3) := by decide +kernel
theorem dX1_message_114 : decode cX1_message 114 = .ok (.aload_n 0, 1) := by decide +kernel
theorem dX1_message_115 : decode cX1_message 115 = .ok (.getfield 84, 3) := by decide +kernel
theorem dX1_message_118 : decode cX1_message 118 = .ok (.iload_n 3, 1) := by decide +kernel
theorem dX1_message_119 : decode cX1_message 119 = .ok (.iastore, 1) := by decide +kernel
theorem dX1_message_120 : decode cX1_message 120 = .ok (.aload_n 0, 1) := by decide +kernel
theorem dX1_message_121 : decode cX1_message 121 = .ok (.getfield 25, 3) := by decide +kernel
theorem dX1_message_124 : decode cX1_message 124 = .ok (.aload_n 0, 1) := by decide +kernel
theorem dX1_message_125 : decode cX1_message 125 = .ok (.getfield 84, 3) := by decide +kernel
theorem dX1_message_128 : decode cX1_message 128 = .ok (.iload 4, 2) := by decide +kernel
theorem dX1_message_130 : decode cX1_message 130 = .ok (.iastore, 1) := by decide +kernel
theorem dX1_message_131 : decode cX1_message 131 = .ok (.aload_n 0, 1) := by decide +kernel
theorem dX1_message_132 : decode cX1_message 132 = .ok (.aload_n 0, 1) := by decide +kernel
theorem dX1_message_133 : decode cX1_message 133 = .ok (.getfield 84, 3) := by decide +kernel
theorem dX1_message_136 : decode cX1_message 136 = .ok (.iload_n 2, 1) := by decide +kernel
theorem dX1_message_137 : decode cX1_message 137 = .ok (.invokevirtual 89, 3) := by decide +kernel
theorem dX1_message_140 : decode cX1_message 140 = .ok (.aload_n 0, 1) := by decide +kernel
theorem dX1_message_141 : decode cX1_message 141 = .ok (.dup, 1) := by decide +kernel
theorem dX1_message_142 : decode cX1_message 142 = .ok (.getfield 84, 3) := by decide +kernel
theorem dX1_message_145 : decode cX1_message 145 = .ok (.dup_x1, 1) := by decide +kernel
theorem dX1_message_146 : decode cX1_message 146 = .ok (.iconst 1, 1) := by decide +kernel
theorem dX1_message_147 : decode cX1_message 147 = .ok (.iadd, 1) := by decide +kernel
theorem dX1_message_148 : decode cX1_message 148 = .ok (.putfield 84, 3) := by decide +kernel
theorem dX1_message_151 : decode cX1_message 151 = .ok (.ireturn, 1) := by decide +kernel
theorem dX1_isUnit_0 : decode cX1_isUnit 0 = .ok (.iload_n 1, 1) := by decide +kernel
theorem dX1_isUnit_1 : decode cX1_isUnit 1 = .ok (.ifCond .lt 15, 3) := by decide +kernel
theorem dX1_isUnit_4 : decode cX1_isUnit 4 = .ok (.iload_n 1, 1) := by decide +kernel
theorem dX1_isUnit_5 : decode cX1_isUnit 5 = .ok (.aload_n 0, 1) := by decide +kernel
theorem dX1_isUnit_6 : decode cX1_isUnit 6 = .ok (.getfield 48, 3) := by decide +kernel
theorem dX1_isUnit_9 : decode cX1_isUnit 9 = .ok (.if_icmp .ge 7, 3) := by decide +kernel
theorem dX1_isUnit_12 : decode cX1_isUnit 12 = .ok (.iconst 1, 1) := by decide +kernel
theorem dX1_isUnit_13 : decode cX1_isUnit 13 = .ok (.goto 4, 3) := by decide +kernel
theorem dX1_isUnit_16 : decode cX1_isUnit 16 = .ok (.iconst 0, 1) := by decide +kernel
theorem dX1_isUnit_17 : decode cX1_isUnit 17 = .ok (.ireturn, 1) := by decide +kernel
theorem dX1_refuseOutsideMinutes_0 : decode cX1_refuseOutsideMinutes 0 = .ok (.iload_n 0, 1) := by decide +kernel
theorem dX1_refuseOutsideMinutes_1 : decode cX1_refuseOutsideMinutes 1 = .ok (.ldc 148, 2) := by decide +kernel
theorem dX1_refuseOutsideMinutes_3 : decode cX1_refuseOutsideMinutes 3 = .ok (.invokestatic 35, 3) := by decide +kernel
theorem dX1_refuseOutsideMinutes_6 : decode cX1_refuseOutsideMinutes 6 = .ok (.ifCond .ne 13, 3) := by decide +kernel
theorem dX1_refuseOutsideMinutes_9 : decode cX1_refuseOutsideMinutes 9 = .ok (.new 39, 3) := by decide +kernel
theorem dX1_refuseOutsideMinutes_12 : decode cX1_refuseOutsideMinutes 12 = .ok (.dup, 1) := by decide +kernel
theorem dX1_refuseOutsideMinutes_13 : decode cX1_refuseOutsideMinutes 13 = .ok (.ldc 162, 2) := by decide +kernel
theorem dX1_refuseOutsideMinutes_15 : decode cX1_refuseOutsideMinutes 15 = .ok (.invokespecial 43, 3) := by decide +kernel
theorem dX1_refuseOutsideMinutes_18 : decode cX1_refuseOutsideMinutes 18 = .ok (.athrow, 1) := by decide +kernel
theorem dX1_refuseOutsideMinutes_19 : decode cX1_refuseOutsideMinutes 19 = .ok (.return_, 1) := by decide +kernel
theorem dX1_isValueOf_0 : decode cX1_isValueOf 0 = .ok (.iload_n 0, 1) := by decide +kernel
theorem dX1_isValueOf_1 : decode cX1_isValueOf 1 = .ok (.tableswitch 129 0 15 #[79, 86, 129, 129, 129, 129, 129, 129, 129, 129, 129, 93, 100, 107, 115, 121], 79) := by decide +kernel
theorem dX1_isValueOf_80 : decode cX1_isValueOf 80 = .ok (.iload_n 1, 1) := by decide +kernel
theorem dX1_isValueOf_81 : decode cX1_isValueOf 81 = .ok (.bipush 9, 2) := by decide +kernel
theorem dX1_isValueOf_83 : decode cX1_isValueOf 83 = .ok (.invokestatic 35, 3) := by decide +kernel
theorem dX1_isValueOf_86 : decode cX1_isValueOf 86 = .ok (.ireturn, 1) := by decide +kernel
theorem dX1_isValueOf_87 : decode cX1_isValueOf 87 = .ok (.iload_n 1, 1) := by decide +kernel
theorem dX1_isValueOf_88 : decode cX1_isValueOf 88 = .ok (.bipush 19, 2) := by decide +kernel
theorem dX1_isValueOf_90 : decode cX1_isValueOf 90 = .ok (.invokestatic 35, 3) := by decide +kernel
theorem dX1_isValueOf_93 : decode cX1_isValueOf 93 = .ok (.ireturn, 1) := by decide +kernel
theorem dX1_isValueOf_94 : decode cX1_isValueOf 94 = .ok (.iload_n 1, 1) := by decide +kernel
theorem dX1_isValueOf_95 : decode cX1_isValueOf 95 = .ok (.ldc 161, 2) := by decide +kernel
theorem dX1_isValueOf_97 : decode cX1_isValueOf 97 = .ok (.invokestatic 35, 3) := by decide +kernel
theorem dX1_isValueOf_100 : decode cX1_isValueOf 100 = .ok (.ireturn, 1) := by decide +kernel
theorem dX1_isValueOf_101 : decode cX1_isValueOf 101 = .ok (.iload_n 1, 1) := by decide +kernel
theorem dX1_isValueOf_102 : decode cX1_isValueOf 102 = .ok (.bipush 9, 2) := by decide +kernel
theorem dX1_isValueOf_104 : decode cX1_isValueOf 104 = .ok (.invokestatic 35, 3) := by decide +kernel
theorem dX1_isValueOf_107 : decode cX1_isValueOf 107 = .ok (.ireturn, 1) := by decide +kernel
theorem dX1_isValueOf_108 : decode cX1_isValueOf 108 = .ok (.iload_n 1, 1) := by decide +kernel
theorem dX1_isValueOf_109 : decode cX1_isValueOf 109 = .ok (.sipush 255, 3) := by decide +kernel
theorem dX1_isValueOf_112 : decode cX1_isValueOf 112 = .ok (.invokestatic 35, 3) := by decide +kernel
theorem dX1_isValueOf_115 : decode cX1_isValueOf 115 = .ok (.ireturn, 1) := by decide +kernel
theorem dX1_isValueOf_116 : decode cX1_isValueOf 116 = .ok (.iload_n 1, 1) := by decide +kernel
theorem dX1_isValueOf_117 : decode cX1_isValueOf 117 = .ok (.iconst 1, 1) := by decide +kernel
theorem dX1_isValueOf_118 : decode cX1_isValueOf 118 = .ok (.invokestatic 35, 3) := by decide +kernel
theorem dX1_isValueOf_121 : decode cX1_isValueOf 121 = .ok (.ireturn, 1) := by decide +kernel
theorem dX1_isValueOf_122 : decode cX1_isValueOf 122 = .ok (.iload_n 1, 1) := by decide +kernel
theorem dX1_isValueOf_123 : decode cX1_isValueOf 123 = .ok (.sipush 999, 3) := by decide +kernel
theorem dX1_isValueOf_126 : decode cX1_isValueOf 126 = .ok (.invokestatic 35, 3) := by decide +kernel
theorem dX1_isValueOf_129 : decode cX1_isValueOf 129 = .ok (.ireturn, 1) := by decide +kernel
theorem dX1_isValueOf_130 : decode cX1_isValueOf 130 = .ok (.iconst 1, 1) := by decide +kernel
theorem dX1_isValueOf_131 : decode cX1_isValueOf 131 = .ok (.ireturn, 1) := by decide +kernel
theorem dX1_putInOrder_0 : decode cX1_putInOrder 0 = .ok (.aload_n 0, 1) := by decide +kernel
theorem dX1_putInOrder_1 : decode cX1_putInOrder 1 = .ok (.getfield 84, 3) := by decide +kernel
theorem dX1_putInOrder_4 : decode cX1_putInOrder 4 = .ok (.istore_n 3, 1) := by decide +kernel
theorem dX1_putInOrder_5 : decode cX1_putInOrder 5 = .ok (.iload_n 3, 1) := by decide +kernel
theorem dX1_putInOrder_6 : decode cX1_putInOrder 6 = .ok (.ifCond .le 40, 3) := by decide +kernel
theorem dX1_putInOrder_9 : decode cX1_putInOrder 9 = .ok (.aload_n 0, 1) := by decide +kernel
theorem dX1_putInOrder_10 : decode cX1_putInOrder 10 = .ok (.getfield 19, 3) := by decide +kernel
theorem dX1_putInOrder_13 : decode cX1_putInOrder 13 = .ok (.aload_n 0, 1) := by decide +kernel
theorem dX1_putInOrder_14 : decode cX1_putInOrder 14 = .ok (.getfield 31, 3) := by decide +kernel
theorem dX1_putInOrder_17 : decode cX1_putInOrder 17 = .ok (.iload_n 3, 1) := by decide +kernel
theorem dX1_putInOrder_18 : decode cX1_putInOrder 18 = .ok (.iconst 1, 1) := by decide +kernel
theorem dX1_putInOrder_19 : decode cX1_putInOrder 19 = .ok (.isub, 1) := by decide +kernel
theorem dX1_putInOrder_20 : decode cX1_putInOrder 20 = .ok (.iaload, 1) := by decide +kernel
theorem dX1_putInOrder_21 : decode cX1_putInOrder 21 = .ok (.iaload, 1) := by decide +kernel
theorem dX1_putInOrder_22 : decode cX1_putInOrder 22 = .ok (.iload_n 2, 1) := by decide +kernel
theorem dX1_putInOrder_23 : decode cX1_putInOrder 23 = .ok (.if_icmp .le 23, 3) := by decide +kernel
theorem dX1_putInOrder_26 : decode cX1_putInOrder 26 = .ok (.aload_n 0, 1) := by decide +kernel
theorem dX1_putInOrder_27 : decode cX1_putInOrder 27 = .ok (.getfield 31, 3) := by decide +kernel
theorem dX1_putInOrder_30 : decode cX1_putInOrder 30 = .ok (.iload_n 3, 1) := by decide +kernel
theorem dX1_putInOrder_31 : decode cX1_putInOrder 31 = .ok (.aload_n 0, 1) := by decide +kernel
theorem dX1_putInOrder_32 : decode cX1_putInOrder 32 = .ok (.getfield 31, 3) := by decide +kernel
theorem dX1_putInOrder_35 : decode cX1_putInOrder 35 = .ok (.iload_n 3, 1) := by decide +kernel
theorem dX1_putInOrder_36 : decode cX1_putInOrder 36 = .ok (.iconst 1, 1) := by decide +kernel
theorem dX1_putInOrder_37 : decode cX1_putInOrder 37 = .ok (.isub, 1) := by decide +kernel
theorem dX1_putInOrder_38 : decode cX1_putInOrder 38 = .ok (.iaload, 1) := by decide +kernel
theorem dX1_putInOrder_39 : decode cX1_putInOrder 39 = .ok (.iastore, 1) := by decide +kernel
theorem dX1_putInOrder_40 : decode cX1_putInOrder 40 = .ok (.iinc 3 (-1), 3) := by decide +kernel
theorem dX1_putInOrder_43 : decode cX1_putInOrder 43 = .ok (.goto (-38), 3) := by decide +kernel
theorem dX1_putInOrder_46 : decode cX1_putInOrder 46 = .ok (.aload_n 0, 1) := by decide +kernel
theorem dX1_putInOrder_47 : decode cX1_putInOrder 47 = .ok (.getfield 31, 3) := by decide +kernel
theorem dX1_putInOrder_50 : decode cX1_putInOrder 50 = .ok (.iload_n 3, 1) := by decide +kernel
theorem dX1_putInOrder_51 : decode cX1_putInOrder 51 = .ok (.iload_n 1, 1) := by decide +kernel
theorem dX1_putInOrder_52 : decode cX1_putInOrder 52 = .ok (.iastore, 1) := by decide +kernel
theorem dX1_putInOrder_53 : decode cX1_putInOrder 53 = .ok (.return_, 1) := by decide +kernel
theorem dX1_at_0 : decode cX1_at 0 = .ok (.aload_n 0, 1) := by decide +kernel
theorem dX1_at_1 : decode cX1_at 1 = .ok (.iload_n 1, 1) := by decide +kernel
theorem dX1_at_2 : decode cX1_at 2 = .ok (.invokevirtual 92, 3) := by decide +kernel
theorem dX1_at_5 : decode cX1_at 5 = .ok (.iload_n 3, 1) := by decide +kernel
theorem dX1_at_6 : decode cX1_at 6 = .ok (.bipush 9, 2) := by decide +kernel
theorem dX1_at_8 : decode cX1_at 8 = .ok (.invokestatic 35, 3) := by decide +kernel
theorem dX1_at_11 : decode cX1_at 11 = .ok (.ifCond .ne 13, 3) := by decide +kernel
theorem dX1_at_14 : decode cX1_at 14 = .ok (.new 68, 3) := by decide +kernel
theorem dX1_at_17 : decode cX1_at 17 = .ok (.dup, 1) := by decide +kernel
theorem dX1_at_18 : decode cX1_at 18 = .ok (.ldc 95, 2) := by decide +kernel
theorem dX1_at_20 : decode cX1_at 20 = .ok (.invokespecial 72, 3) := by decide +kernel
theorem dX1_at_23 : decode cX1_at 23 = .ok (.athrow, 1) := by decide +kernel
theorem dX1_at_24 : decode cX1_at 24 = .ok (.iload_n 2, 1) := by decide +kernel
theorem dX1_at_25 : decode cX1_at 25 = .ok (.invokestatic 75, 3) := by decide +kernel
theorem dX1_at_28 : decode cX1_at 28 = .ok (.aload_n 0, 1) := by decide +kernel
theorem dX1_at_29 : decode cX1_at 29 = .ok (.iload_n 2, 1) := by decide +kernel
theorem dX1_at_30 : decode cX1_at 30 = .ok (.invokevirtual 97, 3) := by decide +kernel
theorem dX1_at_33 : decode cX1_at 33 = .ok (.aload_n 0, 1) := by decide +kernel
theorem dX1_at_34 : decode cX1_at 34 = .ok (.getfield 11, 3) := by decide +kernel
theorem dX1_at_37 : decode cX1_at 37 = .ok (.iload_n 1, 1) := by decide +kernel
theorem dX1_at_38 : decode cX1_at 38 = .ok (.aaload, 1) := by decide +kernel
theorem dX1_at_39 : decode cX1_at 39 = .ok (.astore 4, 2) := by decide +kernel
theorem dX1_at_41 : decode cX1_at 41 = .ok (.iload_n 3, 1) := by decide +kernel
theorem dX1_at_42 : decode cX1_at 42 = .ok (.tableswitch 114 0 8 #[50, 56, 62, 68, 74, 80, 86, 92, 99], 50) := by decide +kernel
theorem dX1_at_92 : decode cX1_at 92 = .ok (.aload 4, 2) := by decide +kernel
theorem dX1_at_94 : decode cX1_at 94 = .ok (.getfield 100, 3) := by decide +kernel
theorem dX1_at_97 : decode cX1_at 97 = .ok (.ireturn, 1) := by decide +kernel
theorem dX1_at_98 : decode cX1_at 98 = .ok (.aload 4, 2) := by decide +kernel
theorem dX1_at_100 : decode cX1_at 100 = .ok (.getfield 103, 3) := by decide +kernel
theorem dX1_at_103 : decode cX1_at 103 = .ok (.ireturn, 1) := by decide +kernel
theorem dX1_at_104 : decode cX1_at 104 = .ok (.aload 4, 2) := by decide +kernel
theorem dX1_at_106 : decode cX1_at 106 = .ok (.invokevirtual 106, 3) := by decide +kernel
theorem dX1_at_109 : decode cX1_at 109 = .ok (.ireturn, 1) := by decide +kernel
theorem dX1_at_110 : decode cX1_at 110 = .ok (.aload 4, 2) := by decide +kernel
theorem dX1_at_112 : decode cX1_at 112 = .ok (.invokevirtual 110, 3) := by decide +kernel
theorem dX1_at_115 : decode cX1_at 115 = .ok (.ireturn, 1) := by decide +kernel
theorem dX1_at_116 : decode cX1_at 116 = .ok (.aload 4, 2) := by decide +kernel
theorem dX1_at_118 : decode cX1_at 118 = .ok (.getfield 113, 3) := by decide +kernel
theorem dX1_at_121 : decode cX1_at 121 = .ok (.ireturn, 1) := by decide +kernel
theorem dX1_at_122 : decode cX1_at 122 = .ok (.aload 4, 2) := by decide +kernel
theorem dX1_at_124 : decode cX1_at 124 = .ok (.getfield 116, 3) := by decide +kernel
theorem dX1_at_127 : decode cX1_at 127 = .ok (.ireturn, 1) := by decide +kernel
theorem dX1_at_128 : decode cX1_at 128 = .ok (.aload 4, 2) := by decide +kernel
theorem dX1_at_130 : decode cX1_at 130 = .ok (.getfield 119, 3) := by decide +kernel
theorem dX1_at_133 : decode cX1_at 133 = .ok (.ireturn, 1) := by decide +kernel
theorem dX1_at_134 : decode cX1_at 134 = .ok (.aload 4, 2) := by decide +kernel
theorem dX1_at_136 : decode cX1_at 136 = .ok (.iload_n 2, 1) := by decide +kernel
theorem dX1_at_137 : decode cX1_at 137 = .ok (.invokevirtual 122, 3) := by decide +kernel
theorem dX1_at_140 : decode cX1_at 140 = .ok (.ireturn, 1) := by decide +kernel
theorem dX1_at_141 : decode cX1_at 141 = .ok (.aload 4, 2) := by decide +kernel
theorem dX1_at_143 : decode cX1_at 143 = .ok (.iload_n 2, 1) := by decide +kernel
theorem dX1_at_144 : decode cX1_at 144 = .ok (.invokevirtual 126, 3) := by decide +kernel
theorem dX1_at_147 : decode cX1_at 147 = .ok (.ifCond .eq 7, 3) := by decide +kernel
theorem dX1_at_150 : decode cX1_at 150 = .ok (.iconst 1, 1) := by decide +kernel
theorem dX1_at_151 : decode cX1_at 151 = .ok (.goto 4, 3) := by decide +kernel
theorem dX1_at_154 : decode cX1_at 154 = .ok (.iconst 0, 1) := by decide +kernel
theorem dX1_at_155 : decode cX1_at 155 = .ok (.ireturn, 1) := by decide +kernel
theorem dX1_at_156 : decode cX1_at 156 = .ok (.aload_n 0, 1) := by decide +kernel
theorem dX1_at_157 : decode cX1_at 157 = .ok (.aload 4, 2) := by decide +kernel
theorem dX1_at_159 : decode cX1_at 159 = .ok (.invokevirtual 129, 3) := by decide +kernel
theorem dX1_at_162 : decode cX1_at 162 = .ok (.ireturn, 1) := by decide +kernel
theorem dX1_refuseUnknownUnit_0 : decode cX1_refuseUnknownUnit 0 = .ok (.aload_n 0, 1) := by decide +kernel
theorem dX1_refuseUnknownUnit_1 : decode cX1_refuseUnknownUnit 1 = .ok (.iload_n 1, 1) := by decide +kernel
theorem dX1_refuseUnknownUnit_2 : decode cX1_refuseUnknownUnit 2 = .ok (.invokevirtual 61, 3) := by decide +kernel
theorem dX1_refuseUnknownUnit_5 : decode cX1_refuseUnknownUnit 5 = .ok (.ifCond .ne 13, 3) := by decide +kernel
theorem dX1_refuseUnknownUnit_8 : decode cX1_refuseUnknownUnit 8 = .ok (.new 68, 3) := by decide +kernel
theorem dX1_refuseUnknownUnit_11 : decode cX1_refuseUnknownUnit 11 = .ok (.dup, 1) := by decide +kernel
theorem dX1_refuseUnknownUnit_12 : decode cX1_refuseUnknownUnit 12 = .ok (.ldc 70, 2) := by decide +kernel
theorem dX1_refuseUnknownUnit_14 : decode cX1_refuseUnknownUnit 14 = .ok (.invokespecial 72, 3) := by decide +kernel
theorem dX1_refuseUnknownUnit_17 : decode cX1_refuseUnknownUnit 17 = .ok (.athrow, 1) := by decide +kernel
theorem dX1_refuseUnknownUnit_18 : decode cX1_refuseUnknownUnit 18 = .ok (.return_, 1) := by decide +kernel
theorem dX1_replay_0 : decode cX1_replay 0 = .ok (.iconst 0, 1) := by decide +kernel
theorem dX1_replay_1 : decode cX1_replay 1 = .ok (.istore_n 2, 1) := by decide +kernel
theorem dX1_replay_2 : decode cX1_replay 2 = .ok (.iload_n 2, 1) := by decide +kernel
theorem dX1_replay_3 : decode cX1_replay 3 = .ok (.aload_n 0, 1) := by decide +kernel
theorem dX1_replay_4 : decode cX1_replay 4 = .ok (.getfield 48, 3) := by decide +kernel
theorem dX1_replay_7 : decode cX1_replay 7 = .ok (.if_icmp .ge 18, 3) := by decide +kernel
theorem dX1_replay_10 : decode cX1_replay 10 = .ok (.aload_n 0, 1) := by decide +kernel
theorem dX1_replay_11 : decode cX1_replay 11 = .ok (.getfield 11, 3) := by decide +kernel
theorem dX1_replay_14 : decode cX1_replay 14 = .ok (.iload_n 2, 1) := by decide +kernel
theorem dX1_replay_15 : decode cX1_replay 15 = .ok (.aaload, 1) := by decide +kernel
theorem dX1_replay_16 : decode cX1_replay 16 = .ok (.invokevirtual 164, 3) := by decide +kernel
theorem dX1_replay_19 : decode cX1_replay 19 = .ok (.iinc 2 1, 3) := by decide +kernel
theorem dX1_replay_22 : decode cX1_replay 22 = .ok (.goto (-20), 3) := by decide +kernel
theorem dX1_replay_25 : decode cX1_replay 25 = .ok (.iconst 0, 1) := by decide +kernel
theorem dX1_replay_26 : decode cX1_replay 26 = .ok (.istore_n 2, 1) := by decide +kernel
theorem dX1_replay_27 : decode cX1_replay 27 = .ok (.iload_n 2, 1) := by decide +kernel
theorem dX1_replay_28 : decode cX1_replay 28 = .ok (.aload_n 0, 1) := by decide +kernel
theorem dX1_replay_29 : decode cX1_replay 29 = .ok (.getfield 84, 3) := by decide +kernel
theorem dX1_replay_32 : decode cX1_replay 32 = .ok (.if_icmp .ge 72, 3) := by decide +kernel
theorem dX1_replay_35 : decode cX1_replay 35 = .ok (.aload_n 0, 1) := by decide +kernel
theorem dX1_replay_36 : decode cX1_replay 36 = .ok (.getfield 31, 3) := by decide +kernel
theorem dX1_replay_39 : decode cX1_replay 39 = .ok (.iload_n 2, 1) := by decide +kernel
theorem dX1_replay_40 : decode cX1_replay 40 = .ok (.iaload, 1) := by decide +kernel
theorem dX1_replay_41 : decode cX1_replay 41 = .ok (.istore_n 3, 1) := by decide +kernel
theorem dX1_replay_42 : decode cX1_replay 42 = .ok (.aload_n 0, 1) := by decide +kernel
theorem dX1_replay_43 : decode cX1_replay 43 = .ok (.getfield 19, 3) := by decide +kernel
theorem dX1_replay_46 : decode cX1_replay 46 = .ok (.iload_n 3, 1) := by decide +kernel
theorem dX1_replay_47 : decode cX1_replay 47 = .ok (.iaload, 1) := by decide +kernel
theorem dX1_replay_48 : decode cX1_replay 48 = .ok (.iload_n 1, 1) := by decide +kernel
theorem dX1_replay_49 : decode cX1_replay 49 = .ok (.if_icmp .le 6, 3) := by decide +kernel
theorem dX1_replay_52 : decode cX1_replay 52 = .ok (.goto 52, 3) := by decide +kernel
theorem dX1_replay_55 : decode cX1_replay 55 = .ok (.aload_n 0, 1) := by decide +kernel
theorem dX1_replay_56 : decode cX1_replay 56 = .ok (.getfield 11, 3) := by decide +kernel
theorem dX1_replay_59 : decode cX1_replay 59 = .ok (.aload_n 0, 1) := by decide +kernel
theorem dX1_replay_60 : decode cX1_replay 60 = .ok (.getfield 15, 3) := by decide +kernel
theorem dX1_replay_63 : decode cX1_replay 63 = .ok (.iload_n 3, 1) := by decide +kernel
theorem dX1_replay_64 : decode cX1_replay 64 = .ok (.iaload, 1) := by decide +kernel
theorem dX1_replay_65 : decode cX1_replay 65 = .ok (.aaload, 1) := by decide +kernel
theorem dX1_replay_66 : decode cX1_replay 66 = .ok (.astore 4, 2) := by decide +kernel
theorem dX1_replay_68 : decode cX1_replay 68 = .ok (.aload_n 0, 1) := by decide +kernel
theorem dX1_replay_69 : decode cX1_replay 69 = .ok (.getfield 28, 3) := by decide +kernel
theorem dX1_replay_72 : decode cX1_replay 72 = .ok (.iload_n 3, 1) := by decide +kernel
theorem dX1_replay_73 : decode cX1_replay 73 = .ok (.aload 4, 2) := by decide +kernel
theorem dX1_replay_75 : decode cX1_replay 75 = .ok (.aload_n 0, 1) := by decide +kernel
theorem dX1_replay_76 : decode cX1_replay 76 = .ok (.getfield 22, 3) := by decide +kernel
theorem dX1_replay_79 : decode cX1_replay 79 = .ok (.iload_n 3, 1) := by decide +kernel
theorem dX1_replay_80 : decode cX1_replay 80 = .ok (.iaload, 1) := by decide +kernel
theorem dX1_replay_81 : decode cX1_replay 81 = .ok (.aload_n 0, 1) := by decide +kernel
theorem dX1_replay_82 : decode cX1_replay 82 = .ok (.getfield 25, 3) := by decide +kernel
theorem dX1_replay_85 : decode cX1_replay 85 = .ok (.iload_n 3, 1) := by decide +kernel
theorem dX1_replay_86 : decode cX1_replay 86 = .ok (.iaload, 1) := by decide +kernel
theorem dX1_replay_87 : decode cX1_replay 87 = .ok (.aload_n 0, 1) := by decide +kernel
theorem dX1_replay_88 : decode cX1_replay 88 = .ok (.getfield 19, 3) := by decide +kernel
theorem dX1_replay_91 : decode cX1_replay 91 = .ok (.iload_n 3, 1) := by decide +kernel
theorem dX1_replay_92 : decode cX1_replay 92 = .ok (.iaload, 1) := by decide +kernel
theorem dX1_replay_93 : decode cX1_replay 93 = .ok (.iload_n 2, 1) := by decide +kernel
theorem dX1_replay_94 : decode cX1_replay 94 = .ok (.invokevirtual 167, 3) := by decide +kernel
theorem dX1_replay_97 : decode cX1_replay 97 = .ok (.iastore, 1) := by decide +kernel
theorem dX1_replay_98 : decode cX1_replay 98 = .ok (.iinc 2 1, 3) := by decide +kernel
theorem dX1_replay_101 : decode cX1_replay 101 = .ok (.goto (-74), 3) := by decide +kernel
theorem dX1_replay_104 : decode cX1_replay 104 = .ok (.return_, 1) := by decide +kernel
theorem dX1_rankOf_0 : decode cX1_rankOf 0 = .ok (.aload_n 1, 1) := by decide +kernel
theorem dX1_rankOf_1 : decode cX1_rankOf 1 = .ok (.invokevirtual 110, 3) := by decide +kernel
theorem dX1_rankOf_4 : decode cX1_rankOf 4 = .ok (.istore_n 2, 1) := by decide +kernel
theorem dX1_rankOf_5 : decode cX1_rankOf 5 = .ok (.aload_n 1, 1) := by decide +kernel
theorem dX1_rankOf_6 : decode cX1_rankOf 6 = .ok (.iload_n 2, 1) := by decide +kernel
theorem dX1_rankOf_7 : decode cX1_rankOf 7 = .ok (.invokevirtual 158, 3) := by decide +kernel
theorem dX1_rankOf_10 : decode cX1_rankOf 10 = .ok (.ifCond .ne 5, 3) := by decide +kernel
theorem dX1_rankOf_13 : decode cX1_rankOf 13 = .ok (.iconst 0, 1) := by decide +kernel
theorem dX1_rankOf_14 : decode cX1_rankOf 14 = .ok (.ireturn, 1) := by decide +kernel
theorem dX1_rankOf_15 : decode cX1_rankOf 15 = .ok (.iconst 1, 1) := by decide +kernel
theorem dX1_rankOf_16 : decode cX1_rankOf 16 = .ok (.istore_n 3, 1) := by decide +kernel
theorem dX1_rankOf_17 : decode cX1_rankOf 17 = .ok (.iconst 0, 1) := by decide +kernel
theorem dX1_rankOf_18 : decode cX1_rankOf 18 = .ok (.istore 4, 2) := by decide +kernel
theorem dX1_rankOf_20 : decode cX1_rankOf 20 = .ok (.iload 4, 2) := by decide +kernel
theorem dX1_rankOf_22 : decode cX1_rankOf 22 = .ok (.aload_n 0, 1) := by decide +kernel
theorem dX1_rankOf_23 : decode cX1_rankOf 23 = .ok (.getfield 48, 3) := by decide +kernel
theorem dX1_rankOf_26 : decode cX1_rankOf 26 = .ok (.if_icmp .ge 43, 3) := by decide +kernel
theorem dX1_rankOf_29 : decode cX1_rankOf 29 = .ok (.aload_n 0, 1) := by decide +kernel
theorem dX1_rankOf_30 : decode cX1_rankOf 30 = .ok (.getfield 11, 3) := by decide +kernel
theorem dX1_rankOf_33 : decode cX1_rankOf 33 = .ok (.iload 4, 2) := by decide +kernel
theorem dX1_rankOf_35 : decode cX1_rankOf 35 = .ok (.aaload, 1) := by decide +kernel
theorem dX1_rankOf_36 : decode cX1_rankOf 36 = .ok (.iload_n 2, 1) := by decide +kernel
theorem dX1_rankOf_37 : decode cX1_rankOf 37 = .ok (.invokevirtual 158, 3) := by decide +kernel
theorem dX1_rankOf_40 : decode cX1_rankOf 40 = .ok (.ifCond .eq 23, 3) := by decide +kernel
theorem dX1_rankOf_43 : decode cX1_rankOf 43 = .ok (.aload_n 0, 1) := by decide +kernel
theorem dX1_rankOf_44 : decode cX1_rankOf 44 = .ok (.getfield 11, 3) := by decide +kernel
theorem dX1_rankOf_47 : decode cX1_rankOf 47 = .ok (.iload 4, 2) := by decide +kernel
theorem dX1_rankOf_49 : decode cX1_rankOf 49 = .ok (.aaload, 1) := by decide +kernel
theorem dX1_rankOf_50 : decode cX1_rankOf 50 = .ok (.getfield 171, 3) := by decide +kernel
theorem dX1_rankOf_53 : decode cX1_rankOf 53 = .ok (.aload_n 1, 1) := by decide +kernel
theorem dX1_rankOf_54 : decode cX1_rankOf 54 = .ok (.getfield 171, 3) := by decide +kernel
theorem dX1_rankOf_57 : decode cX1_rankOf 57 = .ok (.if_icmp .ge 6, 3) := by decide +kernel
theorem dX1_rankOf_60 : decode cX1_rankOf 60 = .ok (.iinc 3 1, 3) := by decide +kernel
theorem dX1_rankOf_63 : decode cX1_rankOf 63 = .ok (.iinc 4 1, 3) := by decide +kernel
theorem dX1_rankOf_66 : decode cX1_rankOf 66 = .ok (.goto (-46), 3) := by decide +kernel
theorem dX1_rankOf_69 : decode cX1_rankOf 69 = .ok (.iload_n 3, 1) := by decide +kernel
theorem dX1_rankOf_70 : decode cX1_rankOf 70 = .ok (.ireturn, 1) := by decide +kernel
theorem dX1_place_0 : decode cX1_place 0 = .ok (.aload_n 0, 1) := by decide +kernel
theorem dX1_place_1 : decode cX1_place 1 = .ok (.iload_n 1, 1) := by decide +kernel
theorem dX1_place_2 : decode cX1_place 2 = .ok (.iload_n 2, 1) := by decide +kernel
theorem dX1_place_3 : decode cX1_place 3 = .ok (.invokevirtual 133, 3) := by decide +kernel
theorem dX1_place_6 : decode cX1_place 6 = .ok (.getfield 137, 3) := by decide +kernel
theorem dX1_place_9 : decode cX1_place 9 = .ok (.ireturn, 1) := by decide +kernel
theorem dX1_replayedUnit_0 : decode cX1_replayedUnit 0 = .ok (.aload_n 0, 1) := by decide +kernel
theorem dX1_replayedUnit_1 : decode cX1_replayedUnit 1 = .ok (.iload_n 1, 1) := by decide +kernel
theorem dX1_replayedUnit_2 : decode cX1_replayedUnit 2 = .ok (.invokevirtual 92, 3) := by decide +kernel
theorem dX1_replayedUnit_5 : decode cX1_replayedUnit 5 = .ok (.iload_n 2, 1) := by decide +kernel
theorem dX1_replayedUnit_6 : decode cX1_replayedUnit 6 = .ok (.invokestatic 75, 3) := by decide +kernel
theorem dX1_replayedUnit_9 : decode cX1_replayedUnit 9 = .ok (.aload_n 0, 1) := by decide +kernel
theorem dX1_replayedUnit_10 : decode cX1_replayedUnit 10 = .ok (.iload_n 2, 1) := by decide +kernel
theorem dX1_replayedUnit_11 : decode cX1_replayedUnit 11 = .ok (.invokevirtual 97, 3) := by decide +kernel
theorem dX1_replayedUnit_14 : decode cX1_replayedUnit 14 = .ok (.aload_n 0, 1) := by decide +kernel
theorem dX1_replayedUnit_15 : decode cX1_replayedUnit 15 = .ok (.getfield 11, 3) := by decide +kernel
theorem dX1_replayedUnit_18 : decode cX1_replayedUnit 18 = .ok (.iload_n 1, 1) := by decide +kernel
theorem dX1_replayedUnit_19 : decode cX1_replayedUnit 19 = .ok (.aaload, 1) := by decide +kernel
theorem dX1_replayedUnit_20 : decode cX1_replayedUnit 20 = .ok (.areturn, 1) := by decide +kernel
theorem dX1_age_0 : decode cX1_age 0 = .ok (.aload_n 0, 1) := by decide +kernel
theorem dX1_age_1 : decode cX1_age 1 = .ok (.iload_n 1, 1) := by decide +kernel
theorem dX1_age_2 : decode cX1_age 2 = .ok (.iload_n 2, 1) := by decide +kernel
theorem dX1_age_3 : decode cX1_age 3 = .ok (.invokevirtual 133, 3) := by decide +kernel
theorem dX1_age_6 : decode cX1_age 6 = .ok (.astore_n 3, 1) := by decide +kernel
theorem dX1_age_7 : decode cX1_age 7 = .ok (.aload_n 3, 1) := by decide +kernel
theorem dX1_age_8 : decode cX1_age 8 = .ok (.getfield 137, 3) := by decide +kernel
theorem dX1_age_11 : decode cX1_age 11 = .ok (.iconst (-1), 1) := by decide +kernel
theorem dX1_age_12 : decode cX1_age 12 = .ok (.if_icmp .ne 7, 3) := by decide +kernel
theorem dX1_age_15 : decode cX1_age 15 = .ok (.iconst (-1), 1) := by decide +kernel
theorem dX1_age_16 : decode cX1_age 16 = .ok (.goto 9, 3) := by decide +kernel
theorem dX1_age_19 : decode cX1_age 19 = .ok (.iload_n 2, 1) := by decide +kernel
theorem dX1_age_20 : decode cX1_age 20 = .ok (.aload_n 3, 1) := by decide +kernel
theorem dX1_age_21 : decode cX1_age 21 = .ok (.getfield 140, 3) := by decide +kernel
theorem dX1_age_24 : decode cX1_age 24 = .ok (.isub, 1) := by decide +kernel
theorem dX1_age_25 : decode cX1_age 25 = .ok (.ireturn, 1) := by decide +kernel
theorem dX1_expected_0 : decode cX1_expected 0 = .ok (.aload_n 0, 1) := by decide +kernel
theorem dX1_expected_1 : decode cX1_expected 1 = .ok (.iload_n 1, 1) := by decide +kernel
theorem dX1_expected_2 : decode cX1_expected 2 = .ok (.iload_n 2, 1) := by decide +kernel
theorem dX1_expected_3 : decode cX1_expected 3 = .ok (.invokevirtual 133, 3) := by decide +kernel
theorem dX1_expected_6 : decode cX1_expected 6 = .ok (.getfield 143, 3) := by decide +kernel
theorem dX1_expected_9 : decode cX1_expected 9 = .ok (.ireturn, 1) := by decide +kernel
theorem dX1_wrong_0 : decode cX1_wrong 0 = .ok (.iload_n 1, 1) := by decide +kernel
theorem dX1_wrong_1 : decode cX1_wrong 1 = .ok (.ifCond .lt 11, 3) := by decide +kernel
theorem dX1_wrong_4 : decode cX1_wrong 4 = .ok (.iload_n 1, 1) := by decide +kernel
theorem dX1_wrong_5 : decode cX1_wrong 5 = .ok (.aload_n 0, 1) := by decide +kernel
theorem dX1_wrong_6 : decode cX1_wrong 6 = .ok (.getfield 84, 3) := by decide +kernel
theorem dX1_wrong_9 : decode cX1_wrong 9 = .ok (.if_icmp .lt 13, 3) := by decide +kernel
theorem dX1_wrong_12 : decode cX1_wrong 12 = .ok (.new 68, 3) := by decide +kernel
theorem dX1_wrong_15 : decode cX1_wrong 15 = .ok (.dup, 1) := by decide +kernel
theorem dX1_wrong_16 : decode cX1_wrong 16 = .ok (.ldc 146, 2) := by decide +kernel
theorem dX1_wrong_18 : decode cX1_wrong 18 = .ok (.invokespecial 72, 3) := by decide +kernel
theorem dX1_wrong_21 : decode cX1_wrong 21 = .ok (.athrow, 1) := by decide +kernel
theorem dX1_wrong_22 : decode cX1_wrong 22 = .ok (.aload_n 0, 1) := by decide +kernel
theorem dX1_wrong_23 : decode cX1_wrong 23 = .ok (.ldc 148, 2) := by decide +kernel
theorem dX1_wrong_25 : decode cX1_wrong 25 = .ok (.invokevirtual 97, 3) := by decide +kernel
theorem dX1_wrong_28 : decode cX1_wrong 28 = .ok (.aload_n 0, 1) := by decide +kernel
theorem dX1_wrong_29 : decode cX1_wrong 29 = .ok (.getfield 28, 3) := by decide +kernel
theorem dX1_wrong_32 : decode cX1_wrong 32 = .ok (.iload_n 1, 1) := by decide +kernel
theorem dX1_wrong_33 : decode cX1_wrong 33 = .ok (.iaload, 1) := by decide +kernel
theorem dX1_wrong_34 : decode cX1_wrong 34 = .ok (.ireturn, 1) := by decide +kernel
theorem dX1_told_0 : decode cX1_told 0 = .ok (.iload_n 1, 1) := by decide +kernel
theorem dX1_told_1 : decode cX1_told 1 = .ok (.tableswitch 64 0 6 #[43, 48, 48, 48, 48, 54, 59], 43) := by decide +kernel
theorem dX1_told_44 : decode cX1_told 44 = .ok (.aload_n 0, 1) := by decide +kernel
theorem dX1_told_45 : decode cX1_told 45 = .ok (.getfield 65, 3) := by decide +kernel
theorem dX1_told_48 : decode cX1_told 48 = .ok (.ireturn, 1) := by decide +kernel
theorem dX1_told_49 : decode cX1_told 49 = .ok (.aload_n 0, 1) := by decide +kernel
theorem dX1_told_50 : decode cX1_told 50 = .ok (.iload_n 1, 1) := by decide +kernel
theorem dX1_told_51 : decode cX1_told 51 = .ok (.invokevirtual 149, 3) := by decide +kernel
theorem dX1_told_54 : decode cX1_told 54 = .ok (.ireturn, 1) := by decide +kernel
theorem dX1_told_55 : decode cX1_told 55 = .ok (.aload_n 0, 1) := by decide +kernel
theorem dX1_told_56 : decode cX1_told 56 = .ok (.getfield 84, 3) := by decide +kernel
theorem dX1_told_59 : decode cX1_told 59 = .ok (.ireturn, 1) := by decide +kernel
theorem dX1_told_60 : decode cX1_told 60 = .ok (.aload_n 0, 1) := by decide +kernel
theorem dX1_told_61 : decode cX1_told 61 = .ok (.getfield 48, 3) := by decide +kernel
theorem dX1_told_64 : decode cX1_told 64 = .ok (.ireturn, 1) := by decide +kernel
theorem dX1_told_65 : decode cX1_told 65 = .ok (.new 68, 3) := by decide +kernel
theorem dX1_told_68 : decode cX1_told 68 = .ok (.dup, 1) := by decide +kernel
theorem dX1_told_69 : decode cX1_told 69 = .ok (.ldc 95, 2) := by decide +kernel
theorem dX1_told_71 : decode cX1_told 71 = .ok (.invokespecial 72, 3) := by decide +kernel
theorem dX1_told_74 : decode cX1_told 74 = .ok (.athrow, 1) := by decide +kernel
theorem dX1_countFindings_0 : decode cX1_countFindings 0 = .ok (.aload_n 0, 1) := by decide +kernel
theorem dX1_countFindings_1 : decode cX1_countFindings 1 = .ok (.ldc 148, 2) := by decide +kernel
theorem dX1_countFindings_3 : decode cX1_countFindings 3 = .ok (.invokevirtual 97, 3) := by decide +kernel
theorem dX1_countFindings_6 : decode cX1_countFindings 6 = .ok (.iconst 0, 1) := by decide +kernel
theorem dX1_countFindings_7 : decode cX1_countFindings 7 = .ok (.istore_n 2, 1) := by decide +kernel
theorem dX1_countFindings_8 : decode cX1_countFindings 8 = .ok (.iconst 0, 1) := by decide +kernel
theorem dX1_countFindings_9 : decode cX1_countFindings 9 = .ok (.istore_n 3, 1) := by decide +kernel
theorem dX1_countFindings_10 : decode cX1_countFindings 10 = .ok (.iload_n 3, 1) := by decide +kernel
theorem dX1_countFindings_11 : decode cX1_countFindings 11 = .ok (.aload_n 0, 1) := by decide +kernel
theorem dX1_countFindings_12 : decode cX1_countFindings 12 = .ok (.getfield 84, 3) := by decide +kernel
theorem dX1_countFindings_15 : decode cX1_countFindings 15 = .ok (.if_icmp .ge 22, 3) := by decide +kernel
theorem dX1_countFindings_18 : decode cX1_countFindings 18 = .ok (.aload_n 0, 1) := by decide +kernel
theorem dX1_countFindings_19 : decode cX1_countFindings 19 = .ok (.getfield 28, 3) := by decide +kernel
theorem dX1_countFindings_22 : decode cX1_countFindings 22 = .ok (.iload_n 3, 1) := by decide +kernel
theorem dX1_countFindings_23 : decode cX1_countFindings 23 = .ok (.iaload, 1) := by decide +kernel
theorem dX1_countFindings_24 : decode cX1_countFindings 24 = .ok (.iload_n 1, 1) := by decide +kernel
theorem dX1_countFindings_25 : decode cX1_countFindings 25 = .ok (.if_icmp .ne 6, 3) := by decide +kernel
theorem dX1_countFindings_28 : decode cX1_countFindings 28 = .ok (.iinc 2 1, 3) := by decide +kernel
theorem dX1_countFindings_31 : decode cX1_countFindings 31 = .ok (.iinc 3 1, 3) := by decide +kernel
theorem dX1_countFindings_34 : decode cX1_countFindings 34 = .ok (.goto (-24), 3) := by decide +kernel
theorem dX1_countFindings_37 : decode cX1_countFindings 37 = .ok (.iload_n 2, 1) := by decide +kernel
theorem dX1_countFindings_38 : decode cX1_countFindings 38 = .ok (.ireturn, 1) := by decide +kernel
theorem dX1_many_0 : decode cX1_many 0 = .ok (.iload_n 1, 1) := by decide +kernel
theorem dX1_many_1 : decode cX1_many 1 = .ok (.bipush 10, 2) := by decide +kernel
theorem dX1_many_3 : decode cX1_many 3 = .ok (.invokestatic 35, 3) := by decide +kernel
theorem dX1_many_6 : decode cX1_many 6 = .ok (.ifCond .ne 13, 3) := by decide +kernel
theorem dX1_many_9 : decode cX1_many 9 = .ok (.new 68, 3) := by decide +kernel
theorem dX1_many_12 : decode cX1_many 12 = .ok (.dup, 1) := by decide +kernel
theorem dX1_many_13 : decode cX1_many 13 = .ok (.ldc 152, 2) := by decide +kernel
theorem dX1_many_15 : decode cX1_many 15 = .ok (.invokespecial 72, 3) := by decide +kernel
theorem dX1_many_18 : decode cX1_many 18 = .ok (.athrow, 1) := by decide +kernel
theorem dX1_many_19 : decode cX1_many 19 = .ok (.iload_n 2, 1) := by decide +kernel
theorem dX1_many_20 : decode cX1_many 20 = .ok (.invokestatic 75, 3) := by decide +kernel
theorem dX1_many_23 : decode cX1_many 23 = .ok (.aload_n 0, 1) := by decide +kernel
theorem dX1_many_24 : decode cX1_many 24 = .ok (.iload_n 2, 1) := by decide +kernel
theorem dX1_many_25 : decode cX1_many 25 = .ok (.invokevirtual 97, 3) := by decide +kernel
theorem dX1_many_28 : decode cX1_many 28 = .ok (.iconst 0, 1) := by decide +kernel
theorem dX1_many_29 : decode cX1_many 29 = .ok (.istore_n 3, 1) := by decide +kernel
theorem dX1_many_30 : decode cX1_many 30 = .ok (.iconst 0, 1) := by decide +kernel
theorem dX1_many_31 : decode cX1_many 31 = .ok (.istore 4, 2) := by decide +kernel
theorem dX1_many_33 : decode cX1_many 33 = .ok (.iload 4, 2) := by decide +kernel
theorem dX1_many_35 : decode cX1_many 35 = .ok (.aload_n 0, 1) := by decide +kernel
theorem dX1_many_36 : decode cX1_many 36 = .ok (.getfield 48, 3) := by decide +kernel
theorem dX1_many_39 : decode cX1_many 39 = .ok (.if_icmp .ge 26, 3) := by decide +kernel
theorem dX1_many_42 : decode cX1_many 42 = .ok (.aload_n 0, 1) := by decide +kernel
theorem dX1_many_43 : decode cX1_many 43 = .ok (.getfield 11, 3) := by decide +kernel
theorem dX1_many_46 : decode cX1_many 46 = .ok (.iload 4, 2) := by decide +kernel
theorem dX1_many_48 : decode cX1_many 48 = .ok (.aaload, 1) := by decide +kernel
theorem dX1_many_49 : decode cX1_many 49 = .ok (.getfield 100, 3) := by decide +kernel
theorem dX1_many_52 : decode cX1_many 52 = .ok (.iload_n 1, 1) := by decide +kernel
theorem dX1_many_53 : decode cX1_many 53 = .ok (.if_icmp .ne 6, 3) := by decide +kernel
theorem dX1_many_56 : decode cX1_many 56 = .ok (.iinc 3 1, 3) := by decide +kernel
theorem dX1_many_59 : decode cX1_many 59 = .ok (.iinc 4 1, 3) := by decide +kernel
theorem dX1_many_62 : decode cX1_many 62 = .ok (.goto (-29), 3) := by decide +kernel
theorem dX1_many_65 : decode cX1_many 65 = .ok (.iload_n 3, 1) := by decide +kernel
theorem dX1_many_66 : decode cX1_many 66 = .ok (.ireturn, 1) := by decide +kernel
theorem dX1_arrived_0 : decode cX1_arrived 0 = .ok (.iload_n 1, 1) := by decide +kernel
theorem dX1_arrived_1 : decode cX1_arrived 1 = .ok (.bipush 19, 2) := by decide +kernel
theorem dX1_arrived_3 : decode cX1_arrived 3 = .ok (.invokestatic 35, 3) := by decide +kernel
theorem dX1_arrived_6 : decode cX1_arrived 6 = .ok (.ifCond .ne 13, 3) := by decide +kernel
theorem dX1_arrived_9 : decode cX1_arrived 9 = .ok (.new 68, 3) := by decide +kernel
theorem dX1_arrived_12 : decode cX1_arrived 12 = .ok (.dup, 1) := by decide +kernel
theorem dX1_arrived_13 : decode cX1_arrived 13 = .ok (.ldc 154, 2) := by decide +kernel
theorem dX1_arrived_15 : decode cX1_arrived 15 = .ok (.invokespecial 72, 3) := by decide +kernel
theorem dX1_arrived_18 : decode cX1_arrived 18 = .ok (.athrow, 1) := by decide +kernel
theorem dX1_arrived_19 : decode cX1_arrived 19 = .ok (.iload_n 3, 1) := by decide +kernel
theorem dX1_arrived_20 : decode cX1_arrived 20 = .ok (.invokestatic 75, 3) := by decide +kernel
theorem dX1_arrived_23 : decode cX1_arrived 23 = .ok (.iload_n 2, 1) := by decide +kernel
theorem dX1_arrived_24 : decode cX1_arrived 24 = .ok (.iconst 1, 1) := by decide +kernel
theorem dX1_arrived_25 : decode cX1_arrived 25 = .ok (.if_icmp .ge 13, 3) := by decide +kernel
theorem dX1_arrived_28 : decode cX1_arrived 28 = .ok (.new 39, 3) := by decide +kernel
theorem dX1_arrived_31 : decode cX1_arrived 31 = .ok (.dup, 1) := by decide +kernel
theorem dX1_arrived_32 : decode cX1_arrived 32 = .ok (.ldc 156, 2) := by decide +kernel
theorem dX1_arrived_34 : decode cX1_arrived 34 = .ok (.invokespecial 43, 3) := by decide +kernel
theorem dX1_arrived_37 : decode cX1_arrived 37 = .ok (.athrow, 1) := by decide +kernel
theorem dX1_arrived_38 : decode cX1_arrived 38 = .ok (.aload_n 0, 1) := by decide +kernel
theorem dX1_arrived_39 : decode cX1_arrived 39 = .ok (.iload_n 3, 1) := by decide +kernel
theorem dX1_arrived_40 : decode cX1_arrived 40 = .ok (.invokevirtual 97, 3) := by decide +kernel
theorem dX1_arrived_43 : decode cX1_arrived 43 = .ok (.iconst 0, 1) := by decide +kernel
theorem dX1_arrived_44 : decode cX1_arrived 44 = .ok (.istore 4, 2) := by decide +kernel
theorem dX1_arrived_46 : decode cX1_arrived 46 = .ok (.iload 4, 2) := by decide +kernel
theorem dX1_arrived_48 : decode cX1_arrived 48 = .ok (.aload_n 0, 1) := by decide +kernel
theorem dX1_arrived_49 : decode cX1_arrived 49 = .ok (.getfield 48, 3) := by decide +kernel
theorem dX1_arrived_52 : decode cX1_arrived 52 = .ok (.if_icmp .ge 41, 3) := by decide +kernel
theorem dX1_arrived_55 : decode cX1_arrived 55 = .ok (.aload_n 0, 1) := by decide +kernel
theorem dX1_arrived_56 : decode cX1_arrived 56 = .ok (.getfield 11, 3) := by decide +kernel
theorem dX1_arrived_59 : decode cX1_arrived 59 = .ok (.iload 4, 2) := by decide +kernel
theorem dX1_arrived_61 : decode cX1_arrived 61 = .ok (.aaload, 1) := by decide +kernel
theorem dX1_arrived_62 : decode cX1_arrived 62 = .ok (.iload_n 1, 1) := by decide +kernel
theorem dX1_arrived_63 : decode cX1_arrived 63 = .ok (.invokevirtual 158, 3) := by decide +kernel
theorem dX1_arrived_66 : decode cX1_arrived 66 = .ok (.ifCond .eq 21, 3) := by decide +kernel
theorem dX1_arrived_69 : decode cX1_arrived 69 = .ok (.aload_n 0, 1) := by decide +kernel
theorem dX1_arrived_70 : decode cX1_arrived 70 = .ok (.aload_n 0, 1) := by decide +kernel
theorem dX1_arrived_71 : decode cX1_arrived 71 = .ok (.getfield 11, 3) := by decide +kernel
theorem dX1_arrived_74 : decode cX1_arrived 74 = .ok (.iload 4, 2) := by decide +kernel
theorem dX1_arrived_76 : decode cX1_arrived 76 = .ok (.aaload, 1) := by decide +kernel
theorem dX1_arrived_77 : decode cX1_arrived 77 = .ok (.invokevirtual 129, 3) := by decide +kernel
theorem dX1_arrived_80 : decode cX1_arrived 80 = .ok (.iload_n 2, 1) := by decide +kernel
theorem dX1_arrived_81 : decode cX1_arrived 81 = .ok (.if_icmp .ne 6, 3) := by decide +kernel
theorem dX1_arrived_84 : decode cX1_arrived 84 = .ok (.iload 4, 2) := by decide +kernel
theorem dX1_arrived_86 : decode cX1_arrived 86 = .ok (.ireturn, 1) := by decide +kernel
theorem dX1_arrived_87 : decode cX1_arrived 87 = .ok (.iinc 4 1, 3) := by decide +kernel
theorem dX1_arrived_90 : decode cX1_arrived 90 = .ok (.goto (-44), 3) := by decide +kernel
theorem dX1_arrived_93 : decode cX1_arrived 93 = .ok (.iconst (-1), 1) := by decide +kernel
theorem dX1_arrived_94 : decode cX1_arrived 94 = .ok (.ireturn, 1) := by decide +kernel
