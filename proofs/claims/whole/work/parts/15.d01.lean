theorem dX9_readNumber_2 : decode cX9_readNumber 2 = .ok (.iconst 0, 1) := by decide +kernel
theorem dX9_readNumber_3 : decode cX9_readNumber 3 = .ok (.istore_n 2, 1) := by decide +kernel
theorem dX9_readNumber_4 : decode cX9_readNumber 4 = .ok (.iload_n 2, 1) := by decide +kernel
theorem dX9_readNumber_5 : decode cX9_readNumber 5 = .ok (.iconst 4, 1) := by decide +kernel
theorem dX9_readNumber_6 : decode cX9_readNumber 6 = .ok (.if_icmp .ge 42, 3) := by decide +kernel
theorem dX9_readNumber_9 : decode cX9_readNumber 9 = .ok (.aload_n 0, 1) := by decide +kernel
theorem dX9_readNumber_10 : decode cX9_readNumber 10 = .ok (.invokevirtual 44, 3) := by decide +kernel
theorem dX9_readNumber_13 : decode cX9_readNumber 13 = .ok (.invokestatic 63, 3) := by decide +kernel
theorem dX9_readNumber_16 : decode cX9_readNumber 16 = .ok (.ifCond .eq 32, 3) := by decide +kernel
theorem dX9_readNumber_19 : decode cX9_readNumber 19 = .ok (.bipush 10, 2) := by decide +kernel
theorem dX9_readNumber_21 : decode cX9_readNumber 21 = .ok (.iload_n 1, 1) := by decide +kernel
theorem dX9_readNumber_22 : decode cX9_readNumber 22 = .ok (.imul, 1) := by decide +kernel
theorem dX9_readNumber_23 : decode cX9_readNumber 23 = .ok (.aload_n 0, 1) := by decide +kernel
theorem dX9_readNumber_24 : decode cX9_readNumber 24 = .ok (.invokevirtual 44, 3) := by decide +kernel
theorem dX9_readNumber_27 : decode cX9_readNumber 27 = .ok (.iadd, 1) := by decide +kernel
theorem dX9_readNumber_28 : decode cX9_readNumber 28 = .ok (.bipush 48, 2) := by decide +kernel
theorem dX9_readNumber_30 : decode cX9_readNumber 30 = .ok (.isub, 1) := by decide +kernel
theorem dX9_readNumber_31 : decode cX9_readNumber 31 = .ok (.istore_n 1, 1) := by decide +kernel
theorem dX9_readNumber_32 : decode cX9_readNumber 32 = .ok (.aload_n 0, 1) := by decide +kernel
theorem dX9_readNumber_33 : decode cX9_readNumber 33 = .ok (.dup, 1) := by decide +kernel
theorem dX9_readNumber_34 : decode cX9_readNumber 34 = .ok (.getfield 27, 3) := by decide +kernel
theorem dX9_readNumber_37 : decode cX9_readNumber 37 = .ok (.iconst 1, 1) := by decide +kernel
theorem dX9_readNumber_38 : decode cX9_readNumber 38 = .ok (.iadd, 1) := by decide +kernel
theorem dX9_readNumber_39 : decode cX9_readNumber 39 = .ok (.putfield 27, 3) := by decide +kernel
theorem dX9_readNumber_42 : decode cX9_readNumber 42 = .ok (.iinc 2 1, 3) := by decide +kernel
theorem dX9_readNumber_45 : decode cX9_readNumber 45 = .ok (.goto (-41), 3) := by decide +kernel
theorem dX9_readNumber_48 : decode cX9_readNumber 48 = .ok (.aload_n 0, 1) := by decide +kernel
theorem dX9_readNumber_49 : decode cX9_readNumber 49 = .ok (.getfield 14, 3) := by decide +kernel
theorem dX9_readNumber_52 : decode cX9_readNumber 52 = .ok (.iload_n 1, 1) := by decide +kernel
theorem dX9_readNumber_53 : decode cX9_readNumber 53 = .ok (.invokevirtual 48, 3) := by decide +kernel
theorem dX9_readNumber_56 : decode cX9_readNumber 56 = .ok (.return_, 1) := by decide +kernel
theorem dX9_isDigit_0 : decode cX9_isDigit 0 = .ok (.iload_n 0, 1) := by decide +kernel
theorem dX9_isDigit_1 : decode cX9_isDigit 1 = .ok (.bipush 48, 2) := by decide +kernel
theorem dX9_isDigit_3 : decode cX9_isDigit 3 = .ok (.if_icmp .lt 13, 3) := by decide +kernel
theorem dX9_isDigit_6 : decode cX9_isDigit 6 = .ok (.iload_n 0, 1) := by decide +kernel
theorem dX9_isDigit_7 : decode cX9_isDigit 7 = .ok (.bipush 57, 2) := by decide +kernel
theorem dX9_isDigit_9 : decode cX9_isDigit 9 = .ok (.if_icmp .gt 7, 3) := by decide +kernel
theorem dX9_isDigit_12 : decode cX9_isDigit 12 = .ok (.iconst 1, 1) := by decide +kernel
theorem dX9_isDigit_13 : decode cX9_isDigit 13 = .ok (.goto 4, 3) := by decide +kernel
theorem dX9_isDigit_16 : decode cX9_isDigit 16 = .ok (.iconst 0, 1) := by decide +kernel
theorem dX9_isDigit_17 : decode cX9_isDigit 17 = .ok (.ireturn, 1) := by decide +kernel
theorem dX9_nameOf_0 : decode cX9_nameOf 0 = .ok (.aload_n 0, 1) := by decide +kernel
theorem dX9_nameOf_1 : decode cX9_nameOf 1 = .ok (.getfield 23, 3) := by decide +kernel
theorem dX9_nameOf_4 : decode cX9_nameOf 4 = .ok (.ifCond .ne 8, 3) := by decide +kernel
theorem dX9_nameOf_7 : decode cX9_nameOf 7 = .ok (.ldc 79, 2) := by decide +kernel
theorem dX9_nameOf_9 : decode cX9_nameOf 9 = .ok (.goto 5, 3) := by decide +kernel
theorem dX9_nameOf_12 : decode cX9_nameOf 12 = .ok (.ldc 81, 2) := by decide +kernel
theorem dX9_nameOf_14 : decode cX9_nameOf 14 = .ok (.astore_n 2, 1) := by decide +kernel
theorem dX9_nameOf_15 : decode cX9_nameOf 15 = .ok (.iconst 0, 1) := by decide +kernel
theorem dX9_nameOf_16 : decode cX9_nameOf 16 = .ok (.istore_n 3, 1) := by decide +kernel
theorem dX9_nameOf_17 : decode cX9_nameOf 17 = .ok (.iload_n 3, 1) := by decide +kernel
theorem dX9_nameOf_18 : decode cX9_nameOf 18 = .ok (.aload_n 2, 1) := by decide +kernel
theorem dX9_nameOf_19 : decode cX9_nameOf 19 = .ok (.invokevirtual 83, 3) := by decide +kernel
theorem dX9_nameOf_22 : decode cX9_nameOf 22 = .ok (.if_icmp .ge 22, 3) := by decide +kernel
theorem dX9_nameOf_25 : decode cX9_nameOf 25 = .ok (.aload_n 2, 1) := by decide +kernel
theorem dX9_nameOf_26 : decode cX9_nameOf 26 = .ok (.iload_n 3, 1) := by decide +kernel
theorem dX9_nameOf_27 : decode cX9_nameOf 27 = .ok (.invokevirtual 88, 3) := by decide +kernel
theorem dX9_nameOf_30 : decode cX9_nameOf 30 = .ok (.iload_n 1, 1) := by decide +kernel
theorem dX9_nameOf_31 : decode cX9_nameOf 31 = .ok (.if_icmp .ne 7, 3) := by decide +kernel
theorem dX9_nameOf_34 : decode cX9_nameOf 34 = .ok (.iconst (-1), 1) := by decide +kernel
theorem dX9_nameOf_35 : decode cX9_nameOf 35 = .ok (.iload_n 3, 1) := by decide +kernel
theorem dX9_nameOf_36 : decode cX9_nameOf 36 = .ok (.isub, 1) := by decide +kernel
theorem dX9_nameOf_37 : decode cX9_nameOf 37 = .ok (.ireturn, 1) := by decide +kernel
theorem dX9_nameOf_38 : decode cX9_nameOf 38 = .ok (.iinc 3 1, 3) := by decide +kernel
theorem dX9_nameOf_41 : decode cX9_nameOf 41 = .ok (.goto (-24), 3) := by decide +kernel
theorem dX9_nameOf_44 : decode cX9_nameOf 44 = .ok (.iconst 0, 1) := by decide +kernel
theorem dX9_nameOf_45 : decode cX9_nameOf 45 = .ok (.ireturn, 1) := by decide +kernel
theorem dX10_init_0 : decode cX10_init 0 = .ok (.aload_n 0, 1) := by decide +kernel
theorem dX10_init_1 : decode cX10_init 1 = .ok (.invokespecial 3, 3) := by decide +kernel
theorem dX10_init_4 : decode cX10_init 4 = .ok (.aload_n 0, 1) := by decide +kernel
theorem dX10_init_5 : decode cX10_init 5 = .ok (.aload_n 1, 1) := by decide +kernel
theorem dX10_init_6 : decode cX10_init 6 = .ok (.putfield 9, 3) := by decide +kernel
theorem dX10_init_9 : decode cX10_init 9 = .ok (.aload_n 0, 1) := by decide +kernel
theorem dX10_init_10 : decode cX10_init 10 = .ok (.aload_n 2, 1) := by decide +kernel
theorem dX10_init_11 : decode cX10_init 11 = .ok (.putfield 15, 3) := by decide +kernel
theorem dX10_init_14 : decode cX10_init 14 = .ok (.aload_n 0, 1) := by decide +kernel
theorem dX10_init_15 : decode cX10_init 15 = .ok (.bipush 10, 2) := by decide +kernel
theorem dX10_init_17 : decode cX10_init 17 = .ok (.newarray .int, 2) := by decide +kernel
theorem dX10_init_19 : decode cX10_init 19 = .ok (.putfield 19, 3) := by decide +kernel
theorem dX10_init_22 : decode cX10_init 22 = .ok (.iconst 0, 1) := by decide +kernel
theorem dX10_init_23 : decode cX10_init 23 = .ok (.istore_n 3, 1) := by decide +kernel
theorem dX10_init_24 : decode cX10_init 24 = .ok (.iload_n 3, 1) := by decide +kernel
theorem dX10_init_25 : decode cX10_init 25 = .ok (.bipush 10, 2) := by decide +kernel
theorem dX10_init_27 : decode cX10_init 27 = .ok (.if_icmp .ge 16, 3) := by decide +kernel
theorem dX10_init_30 : decode cX10_init 30 = .ok (.aload_n 0, 1) := by decide +kernel
theorem dX10_init_31 : decode cX10_init 31 = .ok (.getfield 19, 3) := by decide +kernel
theorem dX10_init_34 : decode cX10_init 34 = .ok (.iload_n 3, 1) := by decide +kernel
theorem dX10_init_35 : decode cX10_init 35 = .ok (.iload_n 3, 1) := by decide +kernel
theorem dX10_init_36 : decode cX10_init 36 = .ok (.iastore, 1) := by decide +kernel
theorem dX10_init_37 : decode cX10_init 37 = .ok (.iinc 3 1, 3) := by decide +kernel
theorem dX10_init_40 : decode cX10_init 40 = .ok (.goto (-16), 3) := by decide +kernel
theorem dX10_init_43 : decode cX10_init 43 = .ok (.aload_n 0, 1) := by decide +kernel
theorem dX10_init_44 : decode cX10_init 44 = .ok (.bipush 8, 2) := by decide +kernel
theorem dX10_init_46 : decode cX10_init 46 = .ok (.newarray .int, 2) := by decide +kernel
theorem dX10_init_48 : decode cX10_init 48 = .ok (.putfield 23, 3) := by decide +kernel
theorem dX10_init_51 : decode cX10_init 51 = .ok (.aload_n 0, 1) := by decide +kernel
theorem dX10_init_52 : decode cX10_init 52 = .ok (.bipush 8, 2) := by decide +kernel
theorem dX10_init_54 : decode cX10_init 54 = .ok (.newarray .int, 2) := by decide +kernel
theorem dX10_init_56 : decode cX10_init 56 = .ok (.putfield 26, 3) := by decide +kernel
theorem dX10_init_59 : decode cX10_init 59 = .ok (.aload_n 0, 1) := by decide +kernel
theorem dX10_init_60 : decode cX10_init 60 = .ok (.bipush 8, 2) := by decide +kernel
theorem dX10_init_62 : decode cX10_init 62 = .ok (.newarray .int, 2) := by decide +kernel
theorem dX10_init_64 : decode cX10_init 64 = .ok (.putfield 29, 3) := by decide +kernel
theorem dX10_init_67 : decode cX10_init 67 = .ok (.aload_n 0, 1) := by decide +kernel
theorem dX10_init_68 : decode cX10_init 68 = .ok (.bipush 8, 2) := by decide +kernel
theorem dX10_init_70 : decode cX10_init 70 = .ok (.newarray .int, 2) := by decide +kernel
theorem dX10_init_72 : decode cX10_init 72 = .ok (.putfield 32, 3) := by decide +kernel
theorem dX10_init_75 : decode cX10_init 75 = .ok (.aload_n 0, 1) := by decide +kernel
theorem dX10_init_76 : decode cX10_init 76 = .ok (.bipush 12, 2) := by decide +kernel
theorem dX10_init_78 : decode cX10_init 78 = .ok (.newarray .int, 2) := by decide +kernel
theorem dX10_init_80 : decode cX10_init 80 = .ok (.putfield 35, 3) := by decide +kernel
theorem dX10_init_83 : decode cX10_init 83 = .ok (.aload_n 0, 1) := by decide +kernel
theorem dX10_init_84 : decode cX10_init 84 = .ok (.bipush 6, 2) := by decide +kernel
theorem dX10_init_86 : decode cX10_init 86 = .ok (.newarray .int, 2) := by decide +kernel
theorem dX10_init_88 : decode cX10_init 88 = .ok (.putfield 38, 3) := by decide +kernel
theorem dX10_init_91 : decode cX10_init 91 = .ok (.aload_n 0, 1) := by decide +kernel
theorem dX10_init_92 : decode cX10_init 92 = .ok (.bipush 6, 2) := by decide +kernel
theorem dX10_init_94 : decode cX10_init 94 = .ok (.newarray .int, 2) := by decide +kernel
theorem dX10_init_96 : decode cX10_init 96 = .ok (.putfield 41, 3) := by decide +kernel
theorem dX10_init_99 : decode cX10_init 99 = .ok (.aload_n 0, 1) := by decide +kernel
theorem dX10_init_100 : decode cX10_init 100 = .ok (.bipush 6, 2) := by decide +kernel
theorem dX10_init_102 : decode cX10_init 102 = .ok (.newarray .int, 2) := by decide +kernel
theorem dX10_init_104 : decode cX10_init 104 = .ok (.putfield 44, 3) := by decide +kernel
theorem dX10_init_107 : decode cX10_init 107 = .ok (.aload_n 0, 1) := by decide +kernel
theorem dX10_init_108 : decode cX10_init 108 = .ok (.iconst 1, 1) := by decide +kernel
theorem dX10_init_109 : decode cX10_init 109 = .ok (.putfield 47, 3) := by decide +kernel
theorem dX10_init_112 : decode cX10_init 112 = .ok (.aload_n 0, 1) := by decide +kernel
theorem dX10_init_113 : decode cX10_init 113 = .ok (.iconst (-1), 1) := by decide +kernel
theorem dX10_init_114 : decode cX10_init 114 = .ok (.putfield 51, 3) := by decide +kernel
theorem dX10_init_117 : decode cX10_init 117 = .ok (.aload_n 0, 1) := by decide +kernel
theorem dX10_init_118 : decode cX10_init 118 = .ok (.iconst (-1), 1) := by decide +kernel
theorem dX10_init_119 : decode cX10_init 119 = .ok (.putfield 54, 3) := by decide +kernel
theorem dX10_init_122 : decode cX10_init 122 = .ok (.return_, 1) := by decide +kernel
theorem dX10_copyFrom_0 : decode cX10_copyFrom 0 = .ok (.aload_n 1, 1) := by decide +kernel
theorem dX10_copyFrom_1 : decode cX10_copyFrom 1 = .ok (.getfield 19, 3) := by decide +kernel
theorem dX10_copyFrom_4 : decode cX10_copyFrom 4 = .ok (.iconst 0, 1) := by decide +kernel
theorem dX10_copyFrom_5 : decode cX10_copyFrom 5 = .ok (.aload_n 0, 1) := by decide +kernel
theorem dX10_copyFrom_6 : decode cX10_copyFrom 6 = .ok (.getfield 19, 3) := by decide +kernel
theorem dX10_copyFrom_9 : decode cX10_copyFrom 9 = .ok (.iconst 0, 1) := by decide +kernel
theorem dX10_copyFrom_10 : decode cX10_copyFrom 10 = .ok (.bipush 10, 2) := by decide +kernel
theorem dX10_copyFrom_12 : decode cX10_copyFrom 12 = .ok (.invokestatic 57, 3) := by decide +kernel
theorem dX10_copyFrom_15 : decode cX10_copyFrom 15 = .ok (.aload_n 1, 1) := by decide +kernel
theorem dX10_copyFrom_16 : decode cX10_copyFrom 16 = .ok (.getfield 23, 3) := by decide +kernel
theorem dX10_copyFrom_19 : decode cX10_copyFrom 19 = .ok (.iconst 0, 1) := by decide +kernel
theorem dX10_copyFrom_20 : decode cX10_copyFrom 20 = .ok (.aload_n 0, 1) := by decide +kernel
theorem dX10_copyFrom_21 : decode cX10_copyFrom 21 = .ok (.getfield 23, 3) := by decide +kernel
theorem dX10_copyFrom_24 : decode cX10_copyFrom 24 = .ok (.iconst 0, 1) := by decide +kernel
theorem dX10_copyFrom_25 : decode cX10_copyFrom 25 = .ok (.bipush 8, 2) := by decide +kernel
theorem dX10_copyFrom_27 : decode cX10_copyFrom 27 = .ok (.invokestatic 57, 3) := by decide +kernel
theorem dX10_copyFrom_30 : decode cX10_copyFrom 30 = .ok (.aload_n 1, 1) := by decide +kernel
theorem dX10_copyFrom_31 : decode cX10_copyFrom 31 = .ok (.getfield 26, 3) := by decide +kernel
theorem dX10_copyFrom_34 : decode cX10_copyFrom 34 = .ok (.iconst 0, 1) := by decide +kernel
theorem dX10_copyFrom_35 : decode cX10_copyFrom 35 = .ok (.aload_n 0, 1) := by decide +kernel
theorem dX10_copyFrom_36 : decode cX10_copyFrom 36 = .ok (.getfield 26, 3) := by decide +kernel
theorem dX10_copyFrom_39 : decode cX10_copyFrom 39 = .ok (.iconst 0, 1) := by decide +kernel
theorem dX10_copyFrom_40 : decode cX10_copyFrom 40 = .ok (.bipush 8, 2) := by decide +kernel
theorem dX10_copyFrom_42 : decode cX10_copyFrom 42 = .ok (.invokestatic 57, 3) := by decide +kernel
theorem dX10_copyFrom_45 : decode cX10_copyFrom 45 = .ok (.aload_n 1, 1) := by decide +kernel
theorem dX10_copyFrom_46 : decode cX10_copyFrom 46 = .ok (.getfield 29, 3) := by decide +kernel
theorem dX10_copyFrom_49 : decode cX10_copyFrom 49 = .ok (.iconst 0, 1) := by decide +kernel
theorem dX10_copyFrom_50 : decode cX10_copyFrom 50 = .ok (.aload_n 0, 1) := by decide +kernel
theorem dX10_copyFrom_51 : decode cX10_copyFrom 51 = .ok (.getfield 29, 3) := by decide +kernel
theorem dX10_copyFrom_54 : decode cX10_copyFrom 54 = .ok (.iconst 0, 1) := by decide +kernel
theorem dX10_copyFrom_55 : decode cX10_copyFrom 55 = .ok (.bipush 8, 2) := by decide +kernel
theorem dX10_copyFrom_57 : decode cX10_copyFrom 57 = .ok (.invokestatic 57, 3) := by decide +kernel
theorem dX10_copyFrom_60 : decode cX10_copyFrom 60 = .ok (.aload_n 1, 1) := by decide +kernel
theorem dX10_copyFrom_61 : decode cX10_copyFrom 61 = .ok (.getfield 32, 3) := by decide +kernel
theorem dX10_copyFrom_64 : decode cX10_copyFrom 64 = .ok (.iconst 0, 1) := by decide +kernel
theorem dX10_copyFrom_65 : decode cX10_copyFrom 65 = .ok (.aload_n 0, 1) := by decide +kernel
theorem dX10_copyFrom_66 : decode cX10_copyFrom 66 = .ok (.getfield 32, 3) := by decide +kernel
theorem dX10_copyFrom_69 : decode cX10_copyFrom 69 = .ok (.iconst 0, 1) := by decide +kernel
theorem dX10_copyFrom_70 : decode cX10_copyFrom 70 = .ok (.bipush 8, 2) := by decide +kernel
theorem dX10_copyFrom_72 : decode cX10_copyFrom 72 = .ok (.invokestatic 57, 3) := by decide +kernel
theorem dX10_copyFrom_75 : decode cX10_copyFrom 75 = .ok (.aload_n 1, 1) := by decide +kernel
theorem dX10_copyFrom_76 : decode cX10_copyFrom 76 = .ok (.getfield 35, 3) := by decide +kernel
theorem dX10_copyFrom_79 : decode cX10_copyFrom 79 = .ok (.iconst 0, 1) := by decide +kernel
theorem dX10_copyFrom_80 : decode cX10_copyFrom 80 = .ok (.aload_n 0, 1) := by decide +kernel
theorem dX10_copyFrom_81 : decode cX10_copyFrom 81 = .ok (.getfield 35, 3) := by decide +kernel
theorem dX10_copyFrom_84 : decode cX10_copyFrom 84 = .ok (.iconst 0, 1) := by decide +kernel
theorem dX10_copyFrom_85 : decode cX10_copyFrom 85 = .ok (.bipush 12, 2) := by decide +kernel
theorem dX10_copyFrom_87 : decode cX10_copyFrom 87 = .ok (.invokestatic 57, 3) := by decide +kernel
theorem dX10_copyFrom_90 : decode cX10_copyFrom 90 = .ok (.aload_n 1, 1) := by decide +kernel
theorem dX10_copyFrom_91 : decode cX10_copyFrom 91 = .ok (.getfield 38, 3) := by decide +kernel
theorem dX10_copyFrom_94 : decode cX10_copyFrom 94 = .ok (.iconst 0, 1) := by decide +kernel
theorem dX10_copyFrom_95 : decode cX10_copyFrom 95 = .ok (.aload_n 0, 1) := by decide +kernel
theorem dX10_copyFrom_96 : decode cX10_copyFrom 96 = .ok (.getfield 38, 3) := by decide +kernel
theorem dX10_copyFrom_99 : decode cX10_copyFrom 99 = .ok (.iconst 0, 1) := by decide +kernel
theorem dX10_copyFrom_100 : decode cX10_copyFrom 100 = .ok (.bipush 6, 2) := by decide +kernel
theorem dX10_copyFrom_102 : decode cX10_copyFrom 102 = .ok (.invokestatic 57, 3) := by decide +kernel
theorem dX10_copyFrom_105 : decode cX10_copyFrom 105 = .ok (.aload_n 1, 1) := by decide +kernel
theorem dX10_copyFrom_106 : decode cX10_copyFrom 106 = .ok (.getfield 41, 3) := by decide +kernel
theorem dX10_copyFrom_109 : decode cX10_copyFrom 109 = .ok (.iconst 0, 1) := by decide +kernel
theorem dX10_copyFrom_110 : decode cX10_copyFrom 110 = .ok (.aload_n 0, 1) := by decide +kernel
theorem dX10_copyFrom_111 : decode cX10_copyFrom 111 = .ok (.getfield 41, 3) := by decide +kernel
theorem dX10_copyFrom_114 : decode cX10_copyFrom 114 = .ok (.iconst 0, 1) := by decide +kernel
theorem dX10_copyFrom_115 : decode cX10_copyFrom 115 = .ok (.bipush 6, 2) := by decide +kernel
theorem dX10_copyFrom_117 : decode cX10_copyFrom 117 = .ok (.invokestatic 57, 3) := by decide +kernel
theorem dX10_copyFrom_120 : decode cX10_copyFrom 120 = .ok (.aload_n 0, 1) := by decide +kernel
theorem dX10_copyFrom_121 : decode cX10_copyFrom 121 = .ok (.aload_n 1, 1) := by decide +kernel
theorem dX10_copyFrom_122 : decode cX10_copyFrom 122 = .ok (.getfield 63, 3) := by decide +kernel
theorem dX10_copyFrom_125 : decode cX10_copyFrom 125 = .ok (.putfield 63, 3) := by decide +kernel
theorem dX10_copyFrom_128 : decode cX10_copyFrom 128 = .ok (.aload_n 0, 1) := by decide +kernel
theorem dX10_copyFrom_129 : decode cX10_copyFrom 129 = .ok (.aload_n 1, 1) := by decide +kernel
theorem dX10_copyFrom_130 : decode cX10_copyFrom 130 = .ok (.getfield 66, 3) := by decide +kernel
theorem dX10_copyFrom_133 : decode cX10_copyFrom 133 = .ok (.putfield 66, 3) := by decide +kernel
theorem dX10_copyFrom_136 : decode cX10_copyFrom 136 = .ok (.aload_n 0, 1) := by decide +kernel
theorem dX10_copyFrom_137 : decode cX10_copyFrom 137 = .ok (.aload_n 1, 1) := by decide +kernel
theorem dX10_copyFrom_138 : decode cX10_copyFrom 138 = .ok (.getfield 69, 3) := by decide +kernel
theorem dX10_copyFrom_141 : decode cX10_copyFrom 141 = .ok (.putfield 69, 3) := by decide +kernel
theorem dX10_copyFrom_144 : decode cX10_copyFrom 144 = .ok (.aload_n 0, 1) := by decide +kernel
theorem dX10_copyFrom_145 : decode cX10_copyFrom 145 = .ok (.aload_n 1, 1) := by decide +kernel
theorem dX10_copyFrom_146 : decode cX10_copyFrom 146 = .ok (.getfield 47, 3) := by decide +kernel
theorem dX10_copyFrom_149 : decode cX10_copyFrom 149 = .ok (.putfield 47, 3) := by decide +kernel
theorem dX10_copyFrom_152 : decode cX10_copyFrom 152 = .ok (.aload_n 0, 1) := by decide +kernel
theorem dX10_copyFrom_153 : decode cX10_copyFrom 153 = .ok (.iconst 0, 1) := by decide +kernel
theorem dX10_copyFrom_154 : decode cX10_copyFrom 154 = .ok (.putfield 72, 3) := by decide +kernel
theorem dX10_copyFrom_157 : decode cX10_copyFrom 157 = .ok (.aload_n 0, 1) := by decide +kernel
theorem dX10_copyFrom_158 : decode cX10_copyFrom 158 = .ok (.iconst (-1), 1) := by decide +kernel
theorem dX10_copyFrom_159 : decode cX10_copyFrom 159 = .ok (.putfield 51, 3) := by decide +kernel
theorem dX10_copyFrom_162 : decode cX10_copyFrom 162 = .ok (.aload_n 0, 1) := by decide +kernel
theorem dX10_copyFrom_163 : decode cX10_copyFrom 163 = .ok (.iconst 0, 1) := by decide +kernel
theorem dX10_copyFrom_164 : decode cX10_copyFrom 164 = .ok (.putfield 75, 3) := by decide +kernel
theorem dX10_copyFrom_167 : decode cX10_copyFrom 167 = .ok (.aload_n 0, 1) := by decide +kernel
theorem dX10_copyFrom_168 : decode cX10_copyFrom 168 = .ok (.iconst (-1), 1) := by decide +kernel
theorem dX10_copyFrom_169 : decode cX10_copyFrom 169 = .ok (.putfield 54, 3) := by decide +kernel
theorem dX10_copyFrom_172 : decode cX10_copyFrom 172 = .ok (.return_, 1) := by decide +kernel
theorem dX10_addEye_0 : decode cX10_addEye 0 = .ok (.aload_n 0, 1) := by decide +kernel
theorem dX10_addEye_1 : decode cX10_addEye 1 = .ok (.getfield 23, 3) := by decide +kernel
theorem dX10_addEye_4 : decode cX10_addEye 4 = .ok (.aload_n 0, 1) := by decide +kernel
theorem dX10_addEye_5 : decode cX10_addEye 5 = .ok (.getfield 63, 3) := by decide +kernel
theorem dX10_addEye_8 : decode cX10_addEye 8 = .ok (.iload_n 1, 1) := by decide +kernel
theorem dX10_addEye_9 : decode cX10_addEye 9 = .ok (.iastore, 1) := by decide +kernel
theorem dX10_addEye_10 : decode cX10_addEye 10 = .ok (.aload_n 0, 1) := by decide +kernel
theorem dX10_addEye_11 : decode cX10_addEye 11 = .ok (.getfield 26, 3) := by decide +kernel
theorem dX10_addEye_14 : decode cX10_addEye 14 = .ok (.aload_n 0, 1) := by decide +kernel
theorem dX10_addEye_15 : decode cX10_addEye 15 = .ok (.getfield 63, 3) := by decide +kernel
theorem dX10_addEye_18 : decode cX10_addEye 18 = .ok (.iload_n 2, 1) := by decide +kernel
theorem dX10_addEye_19 : decode cX10_addEye 19 = .ok (.iastore, 1) := by decide +kernel
theorem dX10_addEye_20 : decode cX10_addEye 20 = .ok (.aload_n 0, 1) := by decide +kernel
theorem dX10_addEye_21 : decode cX10_addEye 21 = .ok (.getfield 29, 3) := by decide +kernel
theorem dX10_addEye_24 : decode cX10_addEye 24 = .ok (.aload_n 0, 1) := by decide +kernel
theorem dX10_addEye_25 : decode cX10_addEye 25 = .ok (.getfield 63, 3) := by decide +kernel
theorem dX10_addEye_28 : decode cX10_addEye 28 = .ok (.iload_n 3, 1) := by decide +kernel
theorem dX10_addEye_29 : decode cX10_addEye 29 = .ok (.iastore, 1) := by decide +kernel
theorem dX10_addEye_30 : decode cX10_addEye 30 = .ok (.aload_n 0, 1) := by decide +kernel
theorem dX10_addEye_31 : decode cX10_addEye 31 = .ok (.getfield 32, 3) := by decide +kernel
theorem dX10_addEye_34 : decode cX10_addEye 34 = .ok (.aload_n 0, 1) := by decide +kernel
theorem dX10_addEye_35 : decode cX10_addEye 35 = .ok (.getfield 63, 3) := by decide +kernel
theorem dX10_addEye_38 : decode cX10_addEye 38 = .ok (.iconst 0, 1) := by decide +kernel
theorem dX10_addEye_39 : decode cX10_addEye 39 = .ok (.iastore, 1) := by decide +kernel
theorem dX10_addEye_40 : decode cX10_addEye 40 = .ok (.aload_n 0, 1) := by decide +kernel
theorem dX10_addEye_41 : decode cX10_addEye 41 = .ok (.dup, 1) := by decide +kernel
theorem dX10_addEye_42 : decode cX10_addEye 42 = .ok (.getfield 63, 3) := by decide +kernel
theorem dX10_addEye_45 : decode cX10_addEye 45 = .ok (.iconst 1, 1) := by decide +kernel
theorem dX10_addEye_46 : decode cX10_addEye 46 = .ok (.iadd, 1) := by decide +kernel
theorem dX10_addEye_47 : decode cX10_addEye 47 = .ok (.putfield 63, 3) := by decide +kernel
theorem dX10_addEye_50 : decode cX10_addEye 50 = .ok (.aload_n 0, 1) := by decide +kernel
theorem dX10_addEye_51 : decode cX10_addEye 51 = .ok (.getfield 63, 3) := by decide +kernel
theorem dX10_addEye_54 : decode cX10_addEye 54 = .ok (.iconst 1, 1) := by decide +kernel
theorem dX10_addEye_55 : decode cX10_addEye 55 = .ok (.isub, 1) := by decide +kernel
theorem dX10_addEye_56 : decode cX10_addEye 56 = .ok (.ireturn, 1) := by decide +kernel
theorem dX10_addWearer_0 : decode cX10_addWearer 0 = .ok (.aload_n 0, 1) := by decide +kernel
theorem dX10_addWearer_1 : decode cX10_addWearer 1 = .ok (.getfield 35, 3) := by decide +kernel
theorem dX10_addWearer_4 : decode cX10_addWearer 4 = .ok (.iconst 2, 1) := by decide +kernel
theorem dX10_addWearer_5 : decode cX10_addWearer 5 = .ok (.aload_n 0, 1) := by decide +kernel
theorem dX10_addWearer_6 : decode cX10_addWearer 6 = .ok (.getfield 66, 3) := by decide +kernel
theorem dX10_addWearer_9 : decode cX10_addWearer 9 = .ok (.imul, 1) := by decide +kernel
theorem dX10_addWearer_10 : decode cX10_addWearer 10 = .ok (.iconst 0, 1) := by decide +kernel
theorem dX10_addWearer_11 : decode cX10_addWearer 11 = .ok (.iadd, 1) := by decide +kernel
theorem dX10_addWearer_12 : decode cX10_addWearer 12 = .ok (.iconst (-1), 1) := by decide +kernel
theorem dX10_addWearer_13 : decode cX10_addWearer 13 = .ok (.iastore, 1) := by decide +kernel
theorem dX10_addWearer_14 : decode cX10_addWearer 14 = .ok (.aload_n 0, 1) := by decide +kernel
theorem dX10_addWearer_15 : decode cX10_addWearer 15 = .ok (.getfield 35, 3) := by decide +kernel
theorem dX10_addWearer_18 : decode cX10_addWearer 18 = .ok (.iconst 2, 1) := by decide +kernel
theorem dX10_addWearer_19 : decode cX10_addWearer 19 = .ok (.aload_n 0, 1) := by decide +kernel
theorem dX10_addWearer_20 : decode cX10_addWearer 20 = .ok (.getfield 66, 3) := by decide +kernel
theorem dX10_addWearer_23 : decode cX10_addWearer 23 = .ok (.imul, 1) := by decide +kernel
theorem dX10_addWearer_24 : decode cX10_addWearer 24 = .ok (.iconst 1, 1) := by decide +kernel
theorem dX10_addWearer_25 : decode cX10_addWearer 25 = .ok (.iadd, 1) := by decide +kernel
theorem dX10_addWearer_26 : decode cX10_addWearer 26 = .ok (.iconst (-1), 1) := by decide +kernel
theorem dX10_addWearer_27 : decode cX10_addWearer 27 = .ok (.iastore, 1) := by decide +kernel
theorem dX10_addWearer_28 : decode cX10_addWearer 28 = .ok (.aload_n 0, 1) := by decide +kernel
theorem dX10_addWearer_29 : decode cX10_addWearer 29 = .ok (.getfield 38, 3) := by decide +kernel
theorem dX10_addWearer_32 : decode cX10_addWearer 32 = .ok (.aload_n 0, 1) := by decide +kernel
theorem dX10_addWearer_33 : decode cX10_addWearer 33 = .ok (.getfield 66, 3) := by decide +kernel
theorem dX10_addWearer_36 : decode cX10_addWearer 36 = .ok (.bipush 20, 2) := by decide +kernel
theorem dX10_addWearer_38 : decode cX10_addWearer 38 = .ok (.iastore, 1) := by decide +kernel
theorem dX10_addWearer_39 : decode cX10_addWearer 39 = .ok (.aload_n 0, 1) := by decide +kernel
theorem dX10_addWearer_40 : decode cX10_addWearer 40 = .ok (.getfield 41, 3) := by decide +kernel
theorem dX10_addWearer_43 : decode cX10_addWearer 43 = .ok (.aload_n 0, 1) := by decide +kernel
theorem dX10_addWearer_44 : decode cX10_addWearer 44 = .ok (.getfield 66, 3) := by decide +kernel
theorem dX10_addWearer_47 : decode cX10_addWearer 47 = .ok (.iconst 0, 1) := by decide +kernel
theorem dX10_addWearer_48 : decode cX10_addWearer 48 = .ok (.iastore, 1) := by decide +kernel
theorem dX10_addWearer_49 : decode cX10_addWearer 49 = .ok (.aload_n 0, 1) := by decide +kernel
theorem dX10_addWearer_50 : decode cX10_addWearer 50 = .ok (.dup, 1) := by decide +kernel
theorem dX10_addWearer_51 : decode cX10_addWearer 51 = .ok (.getfield 66, 3) := by decide +kernel
theorem dX10_addWearer_54 : decode cX10_addWearer 54 = .ok (.iconst 1, 1) := by decide +kernel
theorem dX10_addWearer_55 : decode cX10_addWearer 55 = .ok (.iadd, 1) := by decide +kernel
theorem dX10_addWearer_56 : decode cX10_addWearer 56 = .ok (.putfield 66, 3) := by decide +kernel
theorem dX10_addWearer_59 : decode cX10_addWearer 59 = .ok (.aload_n 0, 1) := by decide +kernel
theorem dX10_addWearer_60 : decode cX10_addWearer 60 = .ok (.getfield 66, 3) := by decide +kernel
theorem dX10_addWearer_63 : decode cX10_addWearer 63 = .ok (.iconst 1, 1) := by decide +kernel
theorem dX10_addWearer_64 : decode cX10_addWearer 64 = .ok (.isub, 1) := by decide +kernel
theorem dX10_addWearer_65 : decode cX10_addWearer 65 = .ok (.ireturn, 1) := by decide +kernel
theorem dX10_wearerHas_0 : decode cX10_wearerHas 0 = .ok (.iload_n 2, 1) := by decide +kernel
theorem dX10_wearerHas_1 : decode cX10_wearerHas 1 = .ok (.tableswitch 56 0 2 #[27, 38, 49], 27) := by decide +kernel
theorem dX10_wearerHas_28 : decode cX10_wearerHas 28 = .ok (.aload_n 0, 1) := by decide +kernel
theorem dX10_wearerHas_29 : decode cX10_wearerHas 29 = .ok (.getfield 35, 3) := by decide +kernel
theorem dX10_wearerHas_32 : decode cX10_wearerHas 32 = .ok (.iconst 2, 1) := by decide +kernel
theorem dX10_wearerHas_33 : decode cX10_wearerHas 33 = .ok (.iload_n 1, 1) := by decide +kernel
theorem dX10_wearerHas_34 : decode cX10_wearerHas 34 = .ok (.imul, 1) := by decide +kernel
theorem dX10_wearerHas_35 : decode cX10_wearerHas 35 = .ok (.iconst 0, 1) := by decide +kernel
theorem dX10_wearerHas_36 : decode cX10_wearerHas 36 = .ok (.iadd, 1) := by decide +kernel
theorem dX10_wearerHas_37 : decode cX10_wearerHas 37 = .ok (.iaload, 1) := by decide +kernel
theorem dX10_wearerHas_38 : decode cX10_wearerHas 38 = .ok (.ireturn, 1) := by decide +kernel
theorem dX10_wearerHas_39 : decode cX10_wearerHas 39 = .ok (.aload_n 0, 1) := by decide +kernel
theorem dX10_wearerHas_40 : decode cX10_wearerHas 40 = .ok (.getfield 35, 3) := by decide +kernel
theorem dX10_wearerHas_43 : decode cX10_wearerHas 43 = .ok (.iconst 2, 1) := by decide +kernel
theorem dX10_wearerHas_44 : decode cX10_wearerHas 44 = .ok (.iload_n 1, 1) := by decide +kernel
theorem dX10_wearerHas_45 : decode cX10_wearerHas 45 = .ok (.imul, 1) := by decide +kernel
theorem dX10_wearerHas_46 : decode cX10_wearerHas 46 = .ok (.iconst 1, 1) := by decide +kernel
theorem dX10_wearerHas_47 : decode cX10_wearerHas 47 = .ok (.iadd, 1) := by decide +kernel
theorem dX10_wearerHas_48 : decode cX10_wearerHas 48 = .ok (.iaload, 1) := by decide +kernel
theorem dX10_wearerHas_49 : decode cX10_wearerHas 49 = .ok (.ireturn, 1) := by decide +kernel
theorem dX10_wearerHas_50 : decode cX10_wearerHas 50 = .ok (.aload_n 0, 1) := by decide +kernel
theorem dX10_wearerHas_51 : decode cX10_wearerHas 51 = .ok (.getfield 38, 3) := by decide +kernel
theorem dX10_wearerHas_54 : decode cX10_wearerHas 54 = .ok (.iload_n 1, 1) := by decide +kernel
theorem dX10_wearerHas_55 : decode cX10_wearerHas 55 = .ok (.iaload, 1) := by decide +kernel
theorem dX10_wearerHas_56 : decode cX10_wearerHas 56 = .ok (.ireturn, 1) := by decide +kernel
theorem dX10_wearerHas_57 : decode cX10_wearerHas 57 = .ok (.aload_n 0, 1) := by decide +kernel
theorem dX10_wearerHas_58 : decode cX10_wearerHas 58 = .ok (.getfield 41, 3) := by decide +kernel
theorem dX10_wearerHas_61 : decode cX10_wearerHas 61 = .ok (.iload_n 1, 1) := by decide +kernel
theorem dX10_wearerHas_62 : decode cX10_wearerHas 62 = .ok (.iaload, 1) := by decide +kernel
theorem dX10_wearerHas_63 : decode cX10_wearerHas 63 = .ok (.ireturn, 1) := by decide +kernel
theorem dX10_socketOf_0 : decode cX10_socketOf 0 = .ok (.iconst 0, 1) := by decide +kernel
theorem dX10_socketOf_1 : decode cX10_socketOf 1 = .ok (.istore_n 2, 1) := by decide +kernel
theorem dX10_socketOf_2 : decode cX10_socketOf 2 = .ok (.iload_n 2, 1) := by decide +kernel
theorem dX10_socketOf_3 : decode cX10_socketOf 3 = .ok (.iconst 2, 1) := by decide +kernel
theorem dX10_socketOf_4 : decode cX10_socketOf 4 = .ok (.aload_n 0, 1) := by decide +kernel
theorem dX10_socketOf_5 : decode cX10_socketOf 5 = .ok (.getfield 66, 3) := by decide +kernel
theorem dX10_socketOf_8 : decode cX10_socketOf 8 = .ok (.imul, 1) := by decide +kernel
theorem dX10_socketOf_9 : decode cX10_socketOf 9 = .ok (.if_icmp .ge 21, 3) := by decide +kernel
theorem dX10_socketOf_12 : decode cX10_socketOf 12 = .ok (.aload_n 0, 1) := by decide +kernel
theorem dX10_socketOf_13 : decode cX10_socketOf 13 = .ok (.getfield 35, 3) := by decide +kernel
theorem dX10_socketOf_16 : decode cX10_socketOf 16 = .ok (.iload_n 2, 1) := by decide +kernel
theorem dX10_socketOf_17 : decode cX10_socketOf 17 = .ok (.iaload, 1) := by decide +kernel
theorem dX10_socketOf_18 : decode cX10_socketOf 18 = .ok (.iload_n 1, 1) := by decide +kernel
theorem dX10_socketOf_19 : decode cX10_socketOf 19 = .ok (.if_icmp .ne 5, 3) := by decide +kernel
theorem dX10_socketOf_22 : decode cX10_socketOf 22 = .ok (.iload_n 2, 1) := by decide +kernel
theorem dX10_socketOf_23 : decode cX10_socketOf 23 = .ok (.ireturn, 1) := by decide +kernel
theorem dX10_socketOf_24 : decode cX10_socketOf 24 = .ok (.iinc 2 1, 3) := by decide +kernel
theorem dX10_socketOf_27 : decode cX10_socketOf 27 = .ok (.goto (-25), 3) := by decide +kernel
theorem dX10_socketOf_30 : decode cX10_socketOf 30 = .ok (.iconst (-1), 1) := by decide +kernel
theorem dX10_socketOf_31 : decode cX10_socketOf 31 = .ok (.ireturn, 1) := by decide +kernel
theorem dX10_fit_0 : decode cX10_fit 0 = .ok (.aload_n 0, 1) := by decide +kernel
theorem dX10_fit_1 : decode cX10_fit 1 = .ok (.getfield 35, 3) := by decide +kernel
theorem dX10_fit_4 : decode cX10_fit 4 = .ok (.iconst 2, 1) := by decide +kernel
theorem dX10_fit_5 : decode cX10_fit 5 = .ok (.iload_n 1, 1) := by decide +kernel
theorem dX10_fit_6 : decode cX10_fit 6 = .ok (.imul, 1) := by decide +kernel
theorem dX10_fit_7 : decode cX10_fit 7 = .ok (.iload_n 2, 1) := by decide +kernel
theorem dX10_fit_8 : decode cX10_fit 8 = .ok (.iadd, 1) := by decide +kernel
theorem dX10_fit_9 : decode cX10_fit 9 = .ok (.iaload, 1) := by decide +kernel
theorem dX10_fit_10 : decode cX10_fit 10 = .ok (.istore 4, 2) := by decide +kernel
theorem dX10_fit_12 : decode cX10_fit 12 = .ok (.aload_n 0, 1) := by decide +kernel
theorem dX10_fit_13 : decode cX10_fit 13 = .ok (.iload_n 3, 1) := by decide +kernel
theorem dX10_fit_14 : decode cX10_fit 14 = .ok (.invokevirtual 78, 3) := by decide +kernel
theorem dX10_fit_17 : decode cX10_fit 17 = .ok (.aload_n 0, 1) := by decide +kernel
theorem dX10_fit_18 : decode cX10_fit 18 = .ok (.getfield 35, 3) := by decide +kernel
theorem dX10_fit_21 : decode cX10_fit 21 = .ok (.iconst 2, 1) := by decide +kernel
theorem dX10_fit_22 : decode cX10_fit 22 = .ok (.iload_n 1, 1) := by decide +kernel
theorem dX10_fit_23 : decode cX10_fit 23 = .ok (.imul, 1) := by decide +kernel
theorem dX10_fit_24 : decode cX10_fit 24 = .ok (.iload_n 2, 1) := by decide +kernel
theorem dX10_fit_25 : decode cX10_fit 25 = .ok (.iadd, 1) := by decide +kernel
theorem dX10_fit_26 : decode cX10_fit 26 = .ok (.iload_n 3, 1) := by decide +kernel
theorem dX10_fit_27 : decode cX10_fit 27 = .ok (.iastore, 1) := by decide +kernel
theorem dX10_fit_28 : decode cX10_fit 28 = .ok (.iload 4, 2) := by decide +kernel
theorem dX10_fit_30 : decode cX10_fit 30 = .ok (.ireturn, 1) := by decide +kernel
theorem dX10_takeFromWhereItIs_0 : decode cX10_takeFromWhereItIs 0 = .ok (.iload_n 1, 1) := by decide +kernel
theorem dX10_takeFromWhereItIs_1 : decode cX10_takeFromWhereItIs 1 = .ok (.iconst (-1), 1) := by decide +kernel
theorem dX10_takeFromWhereItIs_2 : decode cX10_takeFromWhereItIs 2 = .ok (.if_icmp .ne 7, 3) := by decide +kernel
theorem dX10_takeFromWhereItIs_5 : decode cX10_takeFromWhereItIs 5 = .ok (.iconst (-1), 1) := by decide +kernel
theorem dX10_takeFromWhereItIs_6 : decode cX10_takeFromWhereItIs 6 = .ok (.goto 8, 3) := by decide +kernel
theorem dX10_takeFromWhereItIs_9 : decode cX10_takeFromWhereItIs 9 = .ok (.aload_n 0, 1) := by decide +kernel
theorem dX10_takeFromWhereItIs_10 : decode cX10_takeFromWhereItIs 10 = .ok (.iload_n 1, 1) := by decide +kernel
theorem dX10_takeFromWhereItIs_11 : decode cX10_takeFromWhereItIs 11 = .ok (.invokevirtual 82, 3) := by decide +kernel
theorem dX10_takeFromWhereItIs_14 : decode cX10_takeFromWhereItIs 14 = .ok (.istore_n 2, 1) := by decide +kernel
theorem dX10_takeFromWhereItIs_15 : decode cX10_takeFromWhereItIs 15 = .ok (.iload_n 2, 1) := by decide +kernel
theorem dX10_takeFromWhereItIs_16 : decode cX10_takeFromWhereItIs 16 = .ok (.ifCond .lt 10, 3) := by decide +kernel
theorem dX10_takeFromWhereItIs_19 : decode cX10_takeFromWhereItIs 19 = .ok (.aload_n 0, 1) := by decide +kernel
theorem dX10_takeFromWhereItIs_20 : decode cX10_takeFromWhereItIs 20 = .ok (.getfield 35, 3) := by decide +kernel
theorem dX10_takeFromWhereItIs_23 : decode cX10_takeFromWhereItIs 23 = .ok (.iload_n 2, 1) := by decide +kernel
theorem dX10_takeFromWhereItIs_24 : decode cX10_takeFromWhereItIs 24 = .ok (.iconst (-1), 1) := by decide +kernel
theorem dX10_takeFromWhereItIs_25 : decode cX10_takeFromWhereItIs 25 = .ok (.iastore, 1) := by decide +kernel
theorem dX10_takeFromWhereItIs_26 : decode cX10_takeFromWhereItIs 26 = .ok (.return_, 1) := by decide +kernel
theorem dX10_fitAlone_0 : decode cX10_fitAlone 0 = .ok (.aload_n 0, 1) := by decide +kernel
theorem dX10_fitAlone_1 : decode cX10_fitAlone 1 = .ok (.iload_n 1, 1) := by decide +kernel
theorem dX10_fitAlone_2 : decode cX10_fitAlone 2 = .ok (.iconst 0, 1) := by decide +kernel
theorem dX10_fitAlone_3 : decode cX10_fitAlone 3 = .ok (.iload_n 2, 1) := by decide +kernel
theorem dX10_fitAlone_4 : decode cX10_fitAlone 4 = .ok (.invokevirtual 86, 3) := by decide +kernel
theorem dX10_fitAlone_7 : decode cX10_fitAlone 7 = .ok (.pop, 1) := by decide +kernel
theorem dX10_fitAlone_8 : decode cX10_fitAlone 8 = .ok (.aload_n 0, 1) := by decide +kernel
theorem dX10_fitAlone_9 : decode cX10_fitAlone 9 = .ok (.getfield 35, 3) := by decide +kernel
theorem dX10_fitAlone_12 : decode cX10_fitAlone 12 = .ok (.iconst 2, 1) := by decide +kernel
theorem dX10_fitAlone_13 : decode cX10_fitAlone 13 = .ok (.iload_n 1, 1) := by decide +kernel
theorem dX10_fitAlone_14 : decode cX10_fitAlone 14 = .ok (.imul, 1) := by decide +kernel
theorem dX10_fitAlone_15 : decode cX10_fitAlone 15 = .ok (.iconst 1, 1) := by decide +kernel
theorem dX10_fitAlone_16 : decode cX10_fitAlone 16 = .ok (.iadd, 1) := by decide +kernel
theorem dX10_fitAlone_17 : decode cX10_fitAlone 17 = .ok (.iconst (-1), 1) := by decide +kernel
theorem dX10_fitAlone_18 : decode cX10_fitAlone 18 = .ok (.iastore, 1) := by decide +kernel
theorem dX10_fitAlone_19 : decode cX10_fitAlone 19 = .ok (.return_, 1) := by decide +kernel
theorem dX10_thingOf_0 : decode cX10_thingOf 0 = .ok (.aload_n 0, 1) := by decide +kernel
theorem dX10_thingOf_1 : decode cX10_thingOf 1 = .ok (.getfield 9, 3) := by decide +kernel
theorem dX10_thingOf_4 : decode cX10_thingOf 4 = .ok (.iconst 0, 1) := by decide +kernel
theorem dX10_thingOf_5 : decode cX10_thingOf 5 = .ok (.aload_n 0, 1) := by decide +kernel
theorem dX10_thingOf_6 : decode cX10_thingOf 6 = .ok (.getfield 29, 3) := by decide +kernel
theorem dX10_thingOf_9 : decode cX10_thingOf 9 = .ok (.iload_n 1, 1) := by decide +kernel
theorem dX10_thingOf_10 : decode cX10_thingOf 10 = .ok (.iaload, 1) := by decide +kernel
theorem dX10_thingOf_11 : decode cX10_thingOf 11 = .ok (.aload_n 0, 1) := by decide +kernel
theorem dX10_thingOf_12 : decode cX10_thingOf 12 = .ok (.getfield 69, 3) := by decide +kernel
theorem dX10_thingOf_15 : decode cX10_thingOf 15 = .ok (.bipush 12, 2) := by decide +kernel
theorem dX10_thingOf_17 : decode cX10_thingOf 17 = .ok (.irem, 1) := by decide +kernel
theorem dX10_thingOf_18 : decode cX10_thingOf 18 = .ok (.aload_n 0, 1) := by decide +kernel
theorem dX10_thingOf_19 : decode cX10_thingOf 19 = .ok (.getfield 26, 3) := by decide +kernel
theorem dX10_thingOf_22 : decode cX10_thingOf 22 = .ok (.iload_n 1, 1) := by decide +kernel
theorem dX10_thingOf_23 : decode cX10_thingOf 23 = .ok (.iaload, 1) := by decide +kernel
theorem dX10_thingOf_24 : decode cX10_thingOf 24 = .ok (.invokevirtual 90, 3) := by decide +kernel
theorem dX10_thingOf_27 : decode cX10_thingOf 27 = .ok (.istore_n 2, 1) := by decide +kernel
theorem dX10_thingOf_28 : decode cX10_thingOf 28 = .ok (.aload_n 0, 1) := by decide +kernel
theorem dX10_thingOf_29 : decode cX10_thingOf 29 = .ok (.getfield 15, 3) := by decide +kernel
theorem dX10_thingOf_32 : decode cX10_thingOf 32 = .ok (.aload_n 0, 1) := by decide +kernel
theorem dX10_thingOf_33 : decode cX10_thingOf 33 = .ok (.getfield 23, 3) := by decide +kernel
theorem dX10_thingOf_36 : decode cX10_thingOf 36 = .ok (.iload_n 1, 1) := by decide +kernel
theorem dX10_thingOf_37 : decode cX10_thingOf 37 = .ok (.iaload, 1) := by decide +kernel
theorem dX10_thingOf_38 : decode cX10_thingOf 38 = .ok (.aaload, 1) := by decide +kernel
theorem dX10_thingOf_39 : decode cX10_thingOf 39 = .ok (.iload_n 2, 1) := by decide +kernel
theorem dX10_thingOf_40 : decode cX10_thingOf 40 = .ok (.aload_n 0, 1) := by decide +kernel
theorem dX10_thingOf_41 : decode cX10_thingOf 41 = .ok (.iload_n 1, 1) := by decide +kernel
theorem dX10_thingOf_42 : decode cX10_thingOf 42 = .ok (.invokevirtual 96, 3) := by decide +kernel
theorem dX10_thingOf_45 : decode cX10_thingOf 45 = .ok (.bipush 10, 2) := by decide +kernel
theorem dX10_thingOf_47 : decode cX10_thingOf 47 = .ok (.irem, 1) := by decide +kernel
theorem dX10_thingOf_48 : decode cX10_thingOf 48 = .ok (.ireturn, 1) := by decide +kernel
theorem dX10_heavyOf_0 : decode cX10_heavyOf 0 = .ok (.aload_n 0, 1) := by decide +kernel
theorem dX10_heavyOf_1 : decode cX10_heavyOf 1 = .ok (.getfield 15, 3) := by decide +kernel
theorem dX10_heavyOf_4 : decode cX10_heavyOf 4 = .ok (.aload_n 0, 1) := by decide +kernel
theorem dX10_heavyOf_5 : decode cX10_heavyOf 5 = .ok (.getfield 23, 3) := by decide +kernel
theorem dX10_heavyOf_8 : decode cX10_heavyOf 8 = .ok (.iload_n 1, 1) := by decide +kernel
theorem dX10_heavyOf_9 : decode cX10_heavyOf 9 = .ok (.iaload, 1) := by decide +kernel
theorem dX10_heavyOf_10 : decode cX10_heavyOf 10 = .ok (.aaload, 1) := by decide +kernel
theorem dX10_heavyOf_11 : decode cX10_heavyOf 11 = .ok (.aload_n 0, 1) := by decide +kernel
theorem dX10_heavyOf_12 : decode cX10_heavyOf 12 = .ok (.getfield 69, 3) := by decide +kernel
theorem dX10_heavyOf_15 : decode cX10_heavyOf 15 = .ok (.invokevirtual 102, 3) := by decide +kernel
theorem dX10_heavyOf_18 : decode cX10_heavyOf 18 = .ok (.ireturn, 1) := by decide +kernel
theorem dX10_heededEye_0 : decode cX10_heededEye 0 = .ok (.aload_n 0, 1) := by decide +kernel
theorem dX10_heededEye_1 : decode cX10_heededEye 1 = .ok (.getfield 35, 3) := by decide +kernel
theorem dX10_heededEye_4 : decode cX10_heededEye 4 = .ok (.iconst 2, 1) := by decide +kernel
theorem dX10_heededEye_5 : decode cX10_heededEye 5 = .ok (.iload_n 1, 1) := by decide +kernel
theorem dX10_heededEye_6 : decode cX10_heededEye 6 = .ok (.imul, 1) := by decide +kernel
theorem dX10_heededEye_7 : decode cX10_heededEye 7 = .ok (.iconst 0, 1) := by decide +kernel
theorem dX10_heededEye_8 : decode cX10_heededEye 8 = .ok (.iadd, 1) := by decide +kernel
theorem dX10_heededEye_9 : decode cX10_heededEye 9 = .ok (.iaload, 1) := by decide +kernel
theorem dX10_heededEye_10 : decode cX10_heededEye 10 = .ok (.istore_n 2, 1) := by decide +kernel
theorem dX10_heededEye_11 : decode cX10_heededEye 11 = .ok (.aload_n 0, 1) := by decide +kernel
theorem dX10_heededEye_12 : decode cX10_heededEye 12 = .ok (.getfield 35, 3) := by decide +kernel
theorem dX10_heededEye_15 : decode cX10_heededEye 15 = .ok (.iconst 2, 1) := by decide +kernel
theorem dX10_heededEye_16 : decode cX10_heededEye 16 = .ok (.iload_n 1, 1) := by decide +kernel
theorem dX10_heededEye_17 : decode cX10_heededEye 17 = .ok (.imul, 1) := by decide +kernel
theorem dX10_heededEye_18 : decode cX10_heededEye 18 = .ok (.iconst 1, 1) := by decide +kernel
theorem dX10_heededEye_19 : decode cX10_heededEye 19 = .ok (.iadd, 1) := by decide +kernel
theorem dX10_heededEye_20 : decode cX10_heededEye 20 = .ok (.iaload, 1) := by decide +kernel
theorem dX10_heededEye_21 : decode cX10_heededEye 21 = .ok (.istore_n 3, 1) := by decide +kernel
theorem dX10_heededEye_22 : decode cX10_heededEye 22 = .ok (.iload_n 2, 1) := by decide +kernel
theorem dX10_heededEye_23 : decode cX10_heededEye 23 = .ok (.iconst (-1), 1) := by decide +kernel
theorem dX10_heededEye_24 : decode cX10_heededEye 24 = .ok (.if_icmp .ne 5, 3) := by decide +kernel
theorem dX10_heededEye_27 : decode cX10_heededEye 27 = .ok (.iload_n 3, 1) := by decide +kernel
theorem dX10_heededEye_28 : decode cX10_heededEye 28 = .ok (.ireturn, 1) := by decide +kernel
theorem dX10_heededEye_29 : decode cX10_heededEye 29 = .ok (.iload_n 3, 1) := by decide +kernel
theorem dX10_heededEye_30 : decode cX10_heededEye 30 = .ok (.iconst (-1), 1) := by decide +kernel
theorem dX10_heededEye_31 : decode cX10_heededEye 31 = .ok (.if_icmp .ne 5, 3) := by decide +kernel
theorem dX10_heededEye_34 : decode cX10_heededEye 34 = .ok (.iload_n 2, 1) := by decide +kernel
theorem dX10_heededEye_35 : decode cX10_heededEye 35 = .ok (.ireturn, 1) := by decide +kernel
theorem dX10_heededEye_36 : decode cX10_heededEye 36 = .ok (.aload_n 0, 1) := by decide +kernel
theorem dX10_heededEye_37 : decode cX10_heededEye 37 = .ok (.getfield 9, 3) := by decide +kernel
theorem dX10_heededEye_40 : decode cX10_heededEye 40 = .ok (.iconst 1, 1) := by decide +kernel
theorem dX10_heededEye_41 : decode cX10_heededEye 41 = .ok (.aload_n 0, 1) := by decide +kernel
theorem dX10_heededEye_42 : decode cX10_heededEye 42 = .ok (.iload_n 2, 1) := by decide +kernel
theorem dX10_heededEye_43 : decode cX10_heededEye 43 = .ok (.invokevirtual 105, 3) := by decide +kernel
theorem dX10_heededEye_46 : decode cX10_heededEye 46 = .ok (.aload_n 0, 1) := by decide +kernel
theorem dX10_heededEye_47 : decode cX10_heededEye 47 = .ok (.iload_n 3, 1) := by decide +kernel
theorem dX10_heededEye_48 : decode cX10_heededEye 48 = .ok (.invokevirtual 105, 3) := by decide +kernel
theorem dX10_heededEye_51 : decode cX10_heededEye 51 = .ok (.aload_n 0, 1) := by decide +kernel
theorem dX10_heededEye_52 : decode cX10_heededEye 52 = .ok (.getfield 69, 3) := by decide +kernel
theorem dX10_heededEye_55 : decode cX10_heededEye 55 = .ok (.bipush 12, 2) := by decide +kernel
theorem dX10_heededEye_57 : decode cX10_heededEye 57 = .ok (.irem, 1) := by decide +kernel
theorem dX10_heededEye_58 : decode cX10_heededEye 58 = .ok (.invokevirtual 90, 3) := by decide +kernel
theorem dX10_heededEye_61 : decode cX10_heededEye 61 = .ok (.ifCond .eq 7, 3) := by decide +kernel
theorem dX10_heededEye_64 : decode cX10_heededEye 64 = .ok (.iload_n 3, 1) := by decide +kernel
theorem dX10_heededEye_65 : decode cX10_heededEye 65 = .ok (.goto 4, 3) := by decide +kernel
theorem dX10_heededEye_68 : decode cX10_heededEye 68 = .ok (.iload_n 2, 1) := by decide +kernel
theorem dX10_heededEye_69 : decode cX10_heededEye 69 = .ok (.ireturn, 1) := by decide +kernel
theorem dX10_passHours_0 : decode cX10_passHours 0 = .ok (.iconst 0, 1) := by decide +kernel
theorem dX10_passHours_1 : decode cX10_passHours 1 = .ok (.istore_n 2, 1) := by decide +kernel
theorem dX10_passHours_2 : decode cX10_passHours 2 = .ok (.iload_n 2, 1) := by decide +kernel
theorem dX10_passHours_3 : decode cX10_passHours 3 = .ok (.iload_n 1, 1) := by decide +kernel
theorem dX10_passHours_4 : decode cX10_passHours 4 = .ok (.if_icmp .ge 40, 3) := by decide +kernel
theorem dX10_passHours_7 : decode cX10_passHours 7 = .ok (.iconst 0, 1) := by decide +kernel
theorem dX10_passHours_8 : decode cX10_passHours 8 = .ok (.istore_n 3, 1) := by decide +kernel
theorem dX10_passHours_9 : decode cX10_passHours 9 = .ok (.iload_n 3, 1) := by decide +kernel
theorem dX10_passHours_10 : decode cX10_passHours 10 = .ok (.aload_n 0, 1) := by decide +kernel
theorem dX10_passHours_11 : decode cX10_passHours 11 = .ok (.getfield 66, 3) := by decide +kernel
theorem dX10_passHours_14 : decode cX10_passHours 14 = .ok (.if_icmp .ge 14, 3) := by decide +kernel
theorem dX10_passHours_17 : decode cX10_passHours 17 = .ok (.aload_n 0, 1) := by decide +kernel
theorem dX10_passHours_18 : decode cX10_passHours 18 = .ok (.iload_n 3, 1) := by decide +kernel
theorem dX10_passHours_19 : decode cX10_passHours 19 = .ok (.invokevirtual 108, 3) := by decide +kernel
theorem dX10_passHours_22 : decode cX10_passHours 22 = .ok (.iinc 3 1, 3) := by decide +kernel
theorem dX10_passHours_25 : decode cX10_passHours 25 = .ok (.goto (-16), 3) := by decide +kernel
theorem dX10_passHours_28 : decode cX10_passHours 28 = .ok (.aload_n 0, 1) := by decide +kernel
theorem dX10_passHours_29 : decode cX10_passHours 29 = .ok (.dup, 1) := by decide +kernel
theorem dX10_passHours_30 : decode cX10_passHours 30 = .ok (.getfield 69, 3) := by decide +kernel
theorem dX10_passHours_33 : decode cX10_passHours 33 = .ok (.iconst 1, 1) := by decide +kernel
theorem dX10_passHours_34 : decode cX10_passHours 34 = .ok (.iadd, 1) := by decide +kernel
theorem dX10_passHours_35 : decode cX10_passHours 35 = .ok (.putfield 69, 3) := by decide +kernel
theorem dX10_passHours_38 : decode cX10_passHours 38 = .ok (.iinc 2 1, 3) := by decide +kernel
theorem dX10_passHours_41 : decode cX10_passHours 41 = .ok (.goto (-39), 3) := by decide +kernel
theorem dX10_passHours_44 : decode cX10_passHours 44 = .ok (.return_, 1) := by decide +kernel
theorem dX10_passFor_0 : decode cX10_passFor 0 = .ok (.aload_n 0, 1) := by decide +kernel
theorem dX10_passFor_1 : decode cX10_passFor 1 = .ok (.iload_n 1, 1) := by decide +kernel
theorem dX10_passFor_2 : decode cX10_passFor 2 = .ok (.invokevirtual 111, 3) := by decide +kernel
theorem dX10_passFor_5 : decode cX10_passFor 5 = .ok (.istore_n 2, 1) := by decide +kernel
theorem dX10_passFor_6 : decode cX10_passFor 6 = .ok (.iload_n 2, 1) := by decide +kernel
theorem dX10_passFor_7 : decode cX10_passFor 7 = .ok (.iconst (-1), 1) := by decide +kernel
theorem dX10_passFor_8 : decode cX10_passFor 8 = .ok (.if_icmp .ne 31, 3) := by decide +kernel
theorem dX10_passFor_11 : decode cX10_passFor 11 = .ok (.aload_n 0, 1) := by decide +kernel
theorem dX10_passFor_12 : decode cX10_passFor 12 = .ok (.getfield 44, 3) := by decide +kernel
theorem dX10_passFor_15 : decode cX10_passFor 15 = .ok (.iload_n 1, 1) := by decide +kernel
theorem dX10_passFor_16 : decode cX10_passFor 16 = .ok (.bipush 10, 2) := by decide +kernel
theorem dX10_passFor_18 : decode cX10_passFor 18 = .ok (.iastore, 1) := by decide +kernel
theorem dX10_passFor_19 : decode cX10_passFor 19 = .ok (.aload_n 0, 1) := by decide +kernel
theorem dX10_passFor_20 : decode cX10_passFor 20 = .ok (.getfield 38, 3) := by decide +kernel
theorem dX10_passFor_23 : decode cX10_passFor 23 = .ok (.iload_n 1, 1) := by decide +kernel
theorem dX10_passFor_24 : decode cX10_passFor 24 = .ok (.bipush 99, 2) := by decide +kernel
theorem dX10_passFor_26 : decode cX10_passFor 26 = .ok (.aload_n 0, 1) := by decide +kernel
theorem dX10_passFor_27 : decode cX10_passFor 27 = .ok (.getfield 38, 3) := by decide +kernel
theorem dX10_passFor_30 : decode cX10_passFor 30 = .ok (.iload_n 1, 1) := by decide +kernel
theorem dX10_passFor_31 : decode cX10_passFor 31 = .ok (.iaload, 1) := by decide +kernel
theorem dX10_passFor_32 : decode cX10_passFor 32 = .ok (.iconst 1, 1) := by decide +kernel
theorem dX10_passFor_33 : decode cX10_passFor 33 = .ok (.iadd, 1) := by decide +kernel
theorem dX10_passFor_34 : decode cX10_passFor 34 = .ok (.invokestatic 114, 3) := by decide +kernel
theorem dX10_passFor_37 : decode cX10_passFor 37 = .ok (.iastore, 1) := by decide +kernel
theorem dX10_passFor_38 : decode cX10_passFor 38 = .ok (.return_, 1) := by decide +kernel
theorem dX10_passFor_39 : decode cX10_passFor 39 = .ok (.aload_n 0, 1) := by decide +kernel
theorem dX10_passFor_40 : decode cX10_passFor 40 = .ok (.iload_n 2, 1) := by decide +kernel
theorem dX10_passFor_41 : decode cX10_passFor 41 = .ok (.invokevirtual 105, 3) := by decide +kernel
theorem dX10_passFor_44 : decode cX10_passFor 44 = .ok (.istore_n 3, 1) := by decide +kernel
theorem dX10_passFor_45 : decode cX10_passFor 45 = .ok (.aload_n 0, 1) := by decide +kernel
theorem dX10_passFor_46 : decode cX10_passFor 46 = .ok (.getfield 44, 3) := by decide +kernel
theorem dX10_passFor_49 : decode cX10_passFor 49 = .ok (.iload_n 1, 1) := by decide +kernel
theorem dX10_passFor_50 : decode cX10_passFor 50 = .ok (.iload_n 3, 1) := by decide +kernel
theorem dX10_passFor_51 : decode cX10_passFor 51 = .ok (.iastore, 1) := by decide +kernel
theorem dX10_passFor_52 : decode cX10_passFor 52 = .ok (.aload_n 0, 1) := by decide +kernel
theorem dX10_passFor_53 : decode cX10_passFor 53 = .ok (.getfield 41, 3) := by decide +kernel
theorem dX10_passFor_56 : decode cX10_passFor 56 = .ok (.iload_n 1, 1) := by decide +kernel
theorem dX10_passFor_57 : decode cX10_passFor 57 = .ok (.dup2, 1) := by decide +kernel
theorem dX10_passFor_58 : decode cX10_passFor 58 = .ok (.iaload, 1) := by decide +kernel
theorem dX10_passFor_59 : decode cX10_passFor 59 = .ok (.iconst 1, 1) := by decide +kernel
theorem dX10_passFor_60 : decode cX10_passFor 60 = .ok (.iload_n 3, 1) := by decide +kernel
theorem dX10_passFor_61 : decode cX10_passFor 61 = .ok (.ishl, 1) := by decide +kernel
theorem dX10_passFor_62 : decode cX10_passFor 62 = .ok (.ior, 1) := by decide +kernel
theorem dX10_passFor_63 : decode cX10_passFor 63 = .ok (.iastore, 1) := by decide +kernel
theorem dX10_passFor_64 : decode cX10_passFor 64 = .ok (.iload_n 1, 1) := by decide +kernel
theorem dX10_passFor_65 : decode cX10_passFor 65 = .ok (.aload_n 0, 1) := by decide +kernel
theorem dX10_passFor_66 : decode cX10_passFor 66 = .ok (.getfield 54, 3) := by decide +kernel
theorem dX10_passFor_69 : decode cX10_passFor 69 = .ok (.if_icmp .eq 48, 3) := by decide +kernel
theorem dX10_passFor_72 : decode cX10_passFor 72 = .ok (.aload_n 0, 1) := by decide +kernel
theorem dX10_passFor_73 : decode cX10_passFor 73 = .ok (.getfield 38, 3) := by decide +kernel
theorem dX10_passFor_76 : decode cX10_passFor 76 = .ok (.iload_n 1, 1) := by decide +kernel
theorem dX10_passFor_77 : decode cX10_passFor 77 = .ok (.iaload, 1) := by decide +kernel
theorem dX10_passFor_78 : decode cX10_passFor 78 = .ok (.aload_n 0, 1) := by decide +kernel
theorem dX10_passFor_79 : decode cX10_passFor 79 = .ok (.iload_n 2, 1) := by decide +kernel
theorem dX10_passFor_80 : decode cX10_passFor 80 = .ok (.invokevirtual 120, 3) := by decide +kernel
theorem dX10_passFor_83 : decode cX10_passFor 83 = .ok (.aload_n 0, 1) := by decide +kernel
theorem dX10_passFor_84 : decode cX10_passFor 84 = .ok (.getfield 19, 3) := by decide +kernel
theorem dX10_passFor_87 : decode cX10_passFor 87 = .ok (.iload_n 3, 1) := by decide +kernel
theorem dX10_passFor_88 : decode cX10_passFor 88 = .ok (.iaload, 1) := by decide +kernel
theorem dX10_passFor_89 : decode cX10_passFor 89 = .ok (.imul, 1) := by decide +kernel
theorem dX10_passFor_90 : decode cX10_passFor 90 = .ok (.invokestatic 114, 3) := by decide +kernel
theorem dX10_passFor_93 : decode cX10_passFor 93 = .ok (.istore 4, 2) := by decide +kernel
theorem dX10_passFor_95 : decode cX10_passFor 95 = .ok (.aload_n 0, 1) := by decide +kernel
theorem dX10_passFor_96 : decode cX10_passFor 96 = .ok (.getfield 38, 3) := by decide +kernel
theorem dX10_passFor_99 : decode cX10_passFor 99 = .ok (.iload_n 1, 1) := by decide +kernel
theorem dX10_passFor_100 : decode cX10_passFor 100 = .ok (.dup2, 1) := by decide +kernel
theorem dX10_passFor_101 : decode cX10_passFor 101 = .ok (.iaload, 1) := by decide +kernel
theorem dX10_passFor_102 : decode cX10_passFor 102 = .ok (.iload 4, 2) := by decide +kernel
theorem dX10_passFor_104 : decode cX10_passFor 104 = .ok (.isub, 1) := by decide +kernel
theorem dX10_passFor_105 : decode cX10_passFor 105 = .ok (.iastore, 1) := by decide +kernel
theorem dX10_passFor_106 : decode cX10_passFor 106 = .ok (.aload_n 0, 1) := by decide +kernel
theorem dX10_passFor_107 : decode cX10_passFor 107 = .ok (.dup, 1) := by decide +kernel
theorem dX10_passFor_108 : decode cX10_passFor 108 = .ok (.getfield 75, 3) := by decide +kernel
theorem dX10_passFor_111 : decode cX10_passFor 111 = .ok (.iload 4, 2) := by decide +kernel
theorem dX10_passFor_113 : decode cX10_passFor 113 = .ok (.iadd, 1) := by decide +kernel
theorem dX10_passFor_114 : decode cX10_passFor 114 = .ok (.putfield 75, 3) := by decide +kernel
theorem dX10_passFor_117 : decode cX10_passFor 117 = .ok (.aload_n 0, 1) := by decide +kernel
theorem dX10_passFor_118 : decode cX10_passFor 118 = .ok (.aload_n 0, 1) := by decide +kernel
theorem dX10_passFor_119 : decode cX10_passFor 119 = .ok (.getfield 35, 3) := by decide +kernel
theorem dX10_passFor_122 : decode cX10_passFor 122 = .ok (.iconst 2, 1) := by decide +kernel
theorem dX10_passFor_123 : decode cX10_passFor 123 = .ok (.iload_n 1, 1) := by decide +kernel
theorem dX10_passFor_124 : decode cX10_passFor 124 = .ok (.imul, 1) := by decide +kernel
theorem dX10_passFor_125 : decode cX10_passFor 125 = .ok (.iconst 0, 1) := by decide +kernel
theorem dX10_passFor_126 : decode cX10_passFor 126 = .ok (.iadd, 1) := by decide +kernel
theorem dX10_passFor_127 : decode cX10_passFor 127 = .ok (.iaload, 1) := by decide +kernel
theorem dX10_passFor_128 : decode cX10_passFor 128 = .ok (.invokevirtual 123, 3) := by decide +kernel
theorem dX10_passFor_131 : decode cX10_passFor 131 = .ok (.aload_n 0, 1) := by decide +kernel
theorem dX10_passFor_132 : decode cX10_passFor 132 = .ok (.aload_n 0, 1) := by decide +kernel
theorem dX10_passFor_133 : decode cX10_passFor 133 = .ok (.getfield 35, 3) := by decide +kernel
theorem dX10_passFor_136 : decode cX10_passFor 136 = .ok (.iconst 2, 1) := by decide +kernel
theorem dX10_passFor_137 : decode cX10_passFor 137 = .ok (.iload_n 1, 1) := by decide +kernel
theorem dX10_passFor_138 : decode cX10_passFor 138 = .ok (.imul, 1) := by decide +kernel
theorem dX10_passFor_139 : decode cX10_passFor 139 = .ok (.iconst 1, 1) := by decide +kernel
theorem dX10_passFor_140 : decode cX10_passFor 140 = .ok (.iadd, 1) := by decide +kernel
theorem dX10_passFor_141 : decode cX10_passFor 141 = .ok (.iaload, 1) := by decide +kernel
theorem dX10_passFor_142 : decode cX10_passFor 142 = .ok (.invokevirtual 123, 3) := by decide +kernel
theorem dX10_passFor_145 : decode cX10_passFor 145 = .ok (.iload_n 1, 1) := by decide +kernel
theorem dX10_passFor_146 : decode cX10_passFor 146 = .ok (.aload_n 0, 1) := by decide +kernel
theorem dX10_passFor_147 : decode cX10_passFor 147 = .ok (.getfield 54, 3) := by decide +kernel
theorem dX10_passFor_150 : decode cX10_passFor 150 = .ok (.if_icmp .eq 18, 3) := by decide +kernel
theorem dX10_passFor_153 : decode cX10_passFor 153 = .ok (.aload_n 0, 1) := by decide +kernel
theorem dX10_passFor_154 : decode cX10_passFor 154 = .ok (.getfield 38, 3) := by decide +kernel
theorem dX10_passFor_157 : decode cX10_passFor 157 = .ok (.iload_n 1, 1) := by decide +kernel
theorem dX10_passFor_158 : decode cX10_passFor 158 = .ok (.iaload, 1) := by decide +kernel
theorem dX10_passFor_159 : decode cX10_passFor 159 = .ok (.ifCond .ne 9, 3) := by decide +kernel
theorem dX10_passFor_162 : decode cX10_passFor 162 = .ok (.aload_n 0, 1) := by decide +kernel
theorem dX10_passFor_163 : decode cX10_passFor 163 = .ok (.iload_n 1, 1) := by decide +kernel
theorem dX10_passFor_164 : decode cX10_passFor 164 = .ok (.iload_n 2, 1) := by decide +kernel
theorem dX10_passFor_165 : decode cX10_passFor 165 = .ok (.invokevirtual 126, 3) := by decide +kernel
theorem dX10_passFor_168 : decode cX10_passFor 168 = .ok (.return_, 1) := by decide +kernel
theorem dX10_wearOn_0 : decode cX10_wearOn 0 = .ok (.iload_n 1, 1) := by decide +kernel
theorem dX10_wearOn_1 : decode cX10_wearOn 1 = .ok (.iconst (-1), 1) := by decide +kernel
theorem dX10_wearOn_2 : decode cX10_wearOn 2 = .ok (.if_icmp .eq 23, 3) := by decide +kernel
theorem dX10_wearOn_5 : decode cX10_wearOn 5 = .ok (.aload_n 0, 1) := by decide +kernel
theorem dX10_wearOn_6 : decode cX10_wearOn 6 = .ok (.getfield 32, 3) := by decide +kernel
theorem dX10_wearOn_9 : decode cX10_wearOn 9 = .ok (.iload_n 1, 1) := by decide +kernel
theorem dX10_wearOn_10 : decode cX10_wearOn 10 = .ok (.sipush 9999, 3) := by decide +kernel
theorem dX10_wearOn_13 : decode cX10_wearOn 13 = .ok (.aload_n 0, 1) := by decide +kernel
theorem dX10_wearOn_14 : decode cX10_wearOn 14 = .ok (.getfield 32, 3) := by decide +kernel
theorem dX10_wearOn_17 : decode cX10_wearOn 17 = .ok (.iload_n 1, 1) := by decide +kernel
theorem dX10_wearOn_18 : decode cX10_wearOn 18 = .ok (.iaload, 1) := by decide +kernel
theorem dX10_wearOn_19 : decode cX10_wearOn 19 = .ok (.iconst 1, 1) := by decide +kernel
theorem dX10_wearOn_20 : decode cX10_wearOn 20 = .ok (.iadd, 1) := by decide +kernel
theorem dX10_wearOn_21 : decode cX10_wearOn 21 = .ok (.invokestatic 114, 3) := by decide +kernel
theorem dX10_wearOn_24 : decode cX10_wearOn 24 = .ok (.iastore, 1) := by decide +kernel
theorem dX10_wearOn_25 : decode cX10_wearOn 25 = .ok (.return_, 1) := by decide +kernel
theorem dX10_takeOut_0 : decode cX10_takeOut 0 = .ok (.aload_n 0, 1) := by decide +kernel
theorem dX10_takeOut_1 : decode cX10_takeOut 1 = .ok (.iload_n 2, 1) := by decide +kernel
theorem dX10_takeOut_2 : decode cX10_takeOut 2 = .ok (.invokevirtual 78, 3) := by decide +kernel
theorem dX10_takeOut_5 : decode cX10_takeOut 5 = .ok (.aload_n 0, 1) := by decide +kernel
theorem dX10_takeOut_6 : decode cX10_takeOut 6 = .ok (.getfield 38, 3) := by decide +kernel
theorem dX10_takeOut_9 : decode cX10_takeOut 9 = .ok (.iload_n 1, 1) := by decide +kernel
theorem dX10_takeOut_10 : decode cX10_takeOut 10 = .ok (.bipush 20, 2) := by decide +kernel
theorem dX10_takeOut_12 : decode cX10_takeOut 12 = .ok (.iastore, 1) := by decide +kernel
theorem dX10_takeOut_13 : decode cX10_takeOut 13 = .ok (.aload_n 0, 1) := by decide +kernel
theorem dX10_takeOut_14 : decode cX10_takeOut 14 = .ok (.getfield 72, 3) := by decide +kernel
theorem dX10_takeOut_17 : decode cX10_takeOut 17 = .ok (.ifCond .ne 8, 3) := by decide +kernel
theorem dX10_takeOut_20 : decode cX10_takeOut 20 = .ok (.aload_n 0, 1) := by decide +kernel
theorem dX10_takeOut_21 : decode cX10_takeOut 21 = .ok (.iload_n 1, 1) := by decide +kernel
theorem dX10_takeOut_22 : decode cX10_takeOut 22 = .ok (.putfield 51, 3) := by decide +kernel
theorem dX10_takeOut_25 : decode cX10_takeOut 25 = .ok (.aload_n 0, 1) := by decide +kernel
theorem dX10_takeOut_26 : decode cX10_takeOut 26 = .ok (.dup, 1) := by decide +kernel
theorem dX10_takeOut_27 : decode cX10_takeOut 27 = .ok (.getfield 72, 3) := by decide +kernel
theorem dX10_takeOut_30 : decode cX10_takeOut 30 = .ok (.iconst 1, 1) := by decide +kernel
theorem dX10_takeOut_31 : decode cX10_takeOut 31 = .ok (.iadd, 1) := by decide +kernel
theorem dX10_takeOut_32 : decode cX10_takeOut 32 = .ok (.putfield 72, 3) := by decide +kernel
theorem dX10_takeOut_35 : decode cX10_takeOut 35 = .ok (.return_, 1) := by decide +kernel
theorem dX10_mostHeeding_0 : decode cX10_mostHeeding 0 = .ok (.iconst 0, 1) := by decide +kernel
theorem dX10_mostHeeding_1 : decode cX10_mostHeeding 1 = .ok (.istore_n 1, 1) := by decide +kernel
theorem dX10_mostHeeding_2 : decode cX10_mostHeeding 2 = .ok (.iconst 0, 1) := by decide +kernel
theorem dX10_mostHeeding_3 : decode cX10_mostHeeding 3 = .ok (.istore_n 2, 1) := by decide +kernel
theorem dX10_mostHeeding_4 : decode cX10_mostHeeding 4 = .ok (.iload_n 2, 1) := by decide +kernel
theorem dX10_mostHeeding_5 : decode cX10_mostHeeding 5 = .ok (.bipush 10, 2) := by decide +kernel
theorem dX10_mostHeeding_7 : decode cX10_mostHeeding 7 = .ok (.if_icmp .ge 49, 3) := by decide +kernel
theorem dX10_mostHeeding_10 : decode cX10_mostHeeding 10 = .ok (.iconst 0, 1) := by decide +kernel
theorem dX10_mostHeeding_11 : decode cX10_mostHeeding 11 = .ok (.istore_n 3, 1) := by decide +kernel
theorem dX10_mostHeeding_12 : decode cX10_mostHeeding 12 = .ok (.iconst 0, 1) := by decide +kernel
theorem dX10_mostHeeding_13 : decode cX10_mostHeeding 13 = .ok (.istore 4, 2) := by decide +kernel
theorem dX10_mostHeeding_15 : decode cX10_mostHeeding 15 = .ok (.iload 4, 2) := by decide +kernel
theorem dX10_mostHeeding_17 : decode cX10_mostHeeding 17 = .ok (.aload_n 0, 1) := by decide +kernel
theorem dX10_mostHeeding_18 : decode cX10_mostHeeding 18 = .ok (.getfield 66, 3) := by decide +kernel
theorem dX10_mostHeeding_21 : decode cX10_mostHeeding 21 = .ok (.if_icmp .ge 23, 3) := by decide +kernel
theorem dX10_mostHeeding_24 : decode cX10_mostHeeding 24 = .ok (.aload_n 0, 1) := by decide +kernel
theorem dX10_mostHeeding_25 : decode cX10_mostHeeding 25 = .ok (.getfield 44, 3) := by decide +kernel
theorem dX10_mostHeeding_28 : decode cX10_mostHeeding 28 = .ok (.iload 4, 2) := by decide +kernel
theorem dX10_mostHeeding_30 : decode cX10_mostHeeding 30 = .ok (.iaload, 1) := by decide +kernel
theorem dX10_mostHeeding_31 : decode cX10_mostHeeding 31 = .ok (.iload_n 2, 1) := by decide +kernel
theorem dX10_mostHeeding_32 : decode cX10_mostHeeding 32 = .ok (.if_icmp .ne 6, 3) := by decide +kernel
theorem dX10_mostHeeding_35 : decode cX10_mostHeeding 35 = .ok (.iinc 3 1, 3) := by decide +kernel
theorem dX10_mostHeeding_38 : decode cX10_mostHeeding 38 = .ok (.iinc 4 1, 3) := by decide +kernel
theorem dX10_mostHeeding_41 : decode cX10_mostHeeding 41 = .ok (.goto (-26), 3) := by decide +kernel
theorem dX10_mostHeeding_44 : decode cX10_mostHeeding 44 = .ok (.iload_n 1, 1) := by decide +kernel
theorem dX10_mostHeeding_45 : decode cX10_mostHeeding 45 = .ok (.iload_n 3, 1) := by decide +kernel
theorem dX10_mostHeeding_46 : decode cX10_mostHeeding 46 = .ok (.invokestatic 130, 3) := by decide +kernel
theorem dX10_mostHeeding_49 : decode cX10_mostHeeding 49 = .ok (.istore_n 1, 1) := by decide +kernel
theorem dX10_mostHeeding_50 : decode cX10_mostHeeding 50 = .ok (.iinc 2 1, 3) := by decide +kernel
theorem dX10_mostHeeding_53 : decode cX10_mostHeeding 53 = .ok (.goto (-49), 3) := by decide +kernel
theorem dX10_mostHeeding_56 : decode cX10_mostHeeding 56 = .ok (.iload_n 1, 1) := by decide +kernel
theorem dX10_mostHeeding_57 : decode cX10_mostHeeding 57 = .ok (.ireturn, 1) := by decide +kernel
theorem dX10_drawBase_0 : decode cX10_drawBase 0 = .ok (.aload_n 0, 1) := by decide +kernel
theorem dX10_drawBase_1 : decode cX10_drawBase 1 = .ok (.aload_n 0, 1) := by decide +kernel
theorem dX10_drawBase_2 : decode cX10_drawBase 2 = .ok (.getfield 47, 3) := by decide +kernel
theorem dX10_drawBase_5 : decode cX10_drawBase 5 = .ok (.ldc 133, 2) := by decide +kernel
theorem dX10_drawBase_7 : decode cX10_drawBase 7 = .ok (.imul, 1) := by decide +kernel
theorem dX10_drawBase_8 : decode cX10_drawBase 8 = .ok (.sipush 12345, 3) := by decide +kernel
theorem dX10_drawBase_11 : decode cX10_drawBase 11 = .ok (.iadd, 1) := by decide +kernel
theorem dX10_drawBase_12 : decode cX10_drawBase 12 = .ok (.putfield 47, 3) := by decide +kernel
theorem dX10_drawBase_15 : decode cX10_drawBase 15 = .ok (.aload_n 0, 1) := by decide +kernel
theorem dX10_drawBase_16 : decode cX10_drawBase 16 = .ok (.getfield 47, 3) := by decide +kernel
theorem dX10_drawBase_19 : decode cX10_drawBase 19 = .ok (.bipush 8, 2) := by decide +kernel
theorem dX10_drawBase_21 : decode cX10_drawBase 21 = .ok (.iushr, 1) := by decide +kernel
theorem dX10_drawBase_22 : decode cX10_drawBase 22 = .ok (.istore_n 1, 1) := by decide +kernel
theorem dX10_drawBase_23 : decode cX10_drawBase 23 = .ok (.aload_n 0, 1) := by decide +kernel
theorem dX10_drawBase_24 : decode cX10_drawBase 24 = .ok (.getfield 63, 3) := by decide +kernel
theorem dX10_drawBase_27 : decode cX10_drawBase 27 = .ok (.ifCond .le 21, 3) := by decide +kernel
theorem dX10_drawBase_30 : decode cX10_drawBase 30 = .ok (.aload_n 0, 1) := by decide +kernel
theorem dX10_drawBase_31 : decode cX10_drawBase 31 = .ok (.getfield 29, 3) := by decide +kernel
theorem dX10_drawBase_34 : decode cX10_drawBase 34 = .ok (.iload_n 1, 1) := by decide +kernel
theorem dX10_drawBase_35 : decode cX10_drawBase 35 = .ok (.aload_n 0, 1) := by decide +kernel
theorem dX10_drawBase_36 : decode cX10_drawBase 36 = .ok (.getfield 63, 3) := by decide +kernel
theorem dX10_drawBase_39 : decode cX10_drawBase 39 = .ok (.irem, 1) := by decide +kernel
theorem dX10_drawBase_40 : decode cX10_drawBase 40 = .ok (.iload_n 1, 1) := by decide +kernel
theorem dX10_drawBase_41 : decode cX10_drawBase 41 = .ok (.bipush 8, 2) := by decide +kernel
theorem dX10_drawBase_43 : decode cX10_drawBase 43 = .ok (.idiv, 1) := by decide +kernel
theorem dX10_drawBase_44 : decode cX10_drawBase 44 = .ok (.bipush 10, 2) := by decide +kernel
theorem dX10_drawBase_46 : decode cX10_drawBase 46 = .ok (.irem, 1) := by decide +kernel
theorem dX10_drawBase_47 : decode cX10_drawBase 47 = .ok (.iastore, 1) := by decide +kernel
theorem dX10_drawBase_48 : decode cX10_drawBase 48 = .ok (.return_, 1) := by decide +kernel
theorem dX10_seenByAnybody_0 : decode cX10_seenByAnybody 0 = .ok (.iconst 0, 1) := by decide +kernel
theorem dX10_seenByAnybody_1 : decode cX10_seenByAnybody 1 = .ok (.istore_n 1, 1) := by decide +kernel
theorem dX10_seenByAnybody_2 : decode cX10_seenByAnybody 2 = .ok (.iconst 0, 1) := by decide +kernel
theorem dX10_seenByAnybody_3 : decode cX10_seenByAnybody 3 = .ok (.istore_n 2, 1) := by decide +kernel
theorem dX10_seenByAnybody_4 : decode cX10_seenByAnybody 4 = .ok (.iload_n 2, 1) := by decide +kernel
theorem dX10_seenByAnybody_5 : decode cX10_seenByAnybody 5 = .ok (.aload_n 0, 1) := by decide +kernel
theorem dX10_seenByAnybody_6 : decode cX10_seenByAnybody 6 = .ok (.getfield 66, 3) := by decide +kernel
theorem dX10_seenByAnybody_9 : decode cX10_seenByAnybody 9 = .ok (.if_icmp .ge 18, 3) := by decide +kernel
theorem dX10_seenByAnybody_12 : decode cX10_seenByAnybody 12 = .ok (.iload_n 1, 1) := by decide +kernel
theorem dX10_seenByAnybody_13 : decode cX10_seenByAnybody 13 = .ok (.aload_n 0, 1) := by decide +kernel
theorem dX10_seenByAnybody_14 : decode cX10_seenByAnybody 14 = .ok (.getfield 41, 3) := by decide +kernel
theorem dX10_seenByAnybody_17 : decode cX10_seenByAnybody 17 = .ok (.iload_n 2, 1) := by decide +kernel
theorem dX10_seenByAnybody_18 : decode cX10_seenByAnybody 18 = .ok (.iaload, 1) := by decide +kernel
theorem dX10_seenByAnybody_19 : decode cX10_seenByAnybody 19 = .ok (.ior, 1) := by decide +kernel
theorem dX10_seenByAnybody_20 : decode cX10_seenByAnybody 20 = .ok (.istore_n 1, 1) := by decide +kernel
theorem dX10_seenByAnybody_21 : decode cX10_seenByAnybody 21 = .ok (.iinc 2 1, 3) := by decide +kernel
theorem dX10_seenByAnybody_24 : decode cX10_seenByAnybody 24 = .ok (.goto (-20), 3) := by decide +kernel
theorem dX10_seenByAnybody_27 : decode cX10_seenByAnybody 27 = .ok (.iload_n 1, 1) := by decide +kernel
theorem dX10_seenByAnybody_28 : decode cX10_seenByAnybody 28 = .ok (.ireturn, 1) := by decide +kernel
theorem dX10_bearsOfAll_0 : decode cX10_bearsOfAll 0 = .ok (.iconst 0, 1) := by decide +kernel
theorem dX10_bearsOfAll_1 : decode cX10_bearsOfAll 1 = .ok (.istore_n 1, 1) := by decide +kernel
theorem dX10_bearsOfAll_2 : decode cX10_bearsOfAll 2 = .ok (.iconst 0, 1) := by decide +kernel
theorem dX10_bearsOfAll_3 : decode cX10_bearsOfAll 3 = .ok (.istore_n 2, 1) := by decide +kernel
theorem dX10_bearsOfAll_4 : decode cX10_bearsOfAll 4 = .ok (.iload_n 2, 1) := by decide +kernel
theorem dX10_bearsOfAll_5 : decode cX10_bearsOfAll 5 = .ok (.aload_n 0, 1) := by decide +kernel
theorem dX10_bearsOfAll_6 : decode cX10_bearsOfAll 6 = .ok (.getfield 66, 3) := by decide +kernel
theorem dX10_bearsOfAll_9 : decode cX10_bearsOfAll 9 = .ok (.if_icmp .ge 18, 3) := by decide +kernel
theorem dX10_bearsOfAll_12 : decode cX10_bearsOfAll 12 = .ok (.iload_n 1, 1) := by decide +kernel
theorem dX10_bearsOfAll_13 : decode cX10_bearsOfAll 13 = .ok (.aload_n 0, 1) := by decide +kernel
theorem dX10_bearsOfAll_14 : decode cX10_bearsOfAll 14 = .ok (.getfield 38, 3) := by decide +kernel
theorem dX10_bearsOfAll_17 : decode cX10_bearsOfAll 17 = .ok (.iload_n 2, 1) := by decide +kernel
theorem dX10_bearsOfAll_18 : decode cX10_bearsOfAll 18 = .ok (.iaload, 1) := by decide +kernel
theorem dX10_bearsOfAll_19 : decode cX10_bearsOfAll 19 = .ok (.iadd, 1) := by decide +kernel
theorem dX10_bearsOfAll_20 : decode cX10_bearsOfAll 20 = .ok (.istore_n 1, 1) := by decide +kernel
theorem dX10_bearsOfAll_21 : decode cX10_bearsOfAll 21 = .ok (.iinc 2 1, 3) := by decide +kernel
theorem dX10_bearsOfAll_24 : decode cX10_bearsOfAll 24 = .ok (.goto (-20), 3) := by decide +kernel
theorem dX10_bearsOfAll_27 : decode cX10_bearsOfAll 27 = .ok (.iload_n 1, 1) := by decide +kernel
theorem dX10_bearsOfAll_28 : decode cX10_bearsOfAll 28 = .ok (.ireturn, 1) := by decide +kernel
theorem dX10_wornEyes_0 : decode cX10_wornEyes 0 = .ok (.iconst 0, 1) := by decide +kernel
theorem dX10_wornEyes_1 : decode cX10_wornEyes 1 = .ok (.istore_n 1, 1) := by decide +kernel
theorem dX10_wornEyes_2 : decode cX10_wornEyes 2 = .ok (.iconst 0, 1) := by decide +kernel
theorem dX10_wornEyes_3 : decode cX10_wornEyes 3 = .ok (.istore_n 2, 1) := by decide +kernel
theorem dX10_wornEyes_4 : decode cX10_wornEyes 4 = .ok (.iload_n 2, 1) := by decide +kernel
theorem dX10_wornEyes_5 : decode cX10_wornEyes 5 = .ok (.aload_n 0, 1) := by decide +kernel
theorem dX10_wornEyes_6 : decode cX10_wornEyes 6 = .ok (.getfield 63, 3) := by decide +kernel
theorem dX10_wornEyes_9 : decode cX10_wornEyes 9 = .ok (.if_icmp .ge 23, 3) := by decide +kernel
theorem dX10_wornEyes_12 : decode cX10_wornEyes 12 = .ok (.aload_n 0, 1) := by decide +kernel
theorem dX10_wornEyes_13 : decode cX10_wornEyes 13 = .ok (.iload_n 2, 1) := by decide +kernel
theorem dX10_wornEyes_14 : decode cX10_wornEyes 14 = .ok (.invokevirtual 82, 3) := by decide +kernel
theorem dX10_wornEyes_17 : decode cX10_wornEyes 17 = .ok (.ifCond .lt 9, 3) := by decide +kernel
theorem dX10_wornEyes_20 : decode cX10_wornEyes 20 = .ok (.iload_n 1, 1) := by decide +kernel
theorem dX10_wornEyes_21 : decode cX10_wornEyes 21 = .ok (.iconst 1, 1) := by decide +kernel
theorem dX10_wornEyes_22 : decode cX10_wornEyes 22 = .ok (.iload_n 2, 1) := by decide +kernel
theorem dX10_wornEyes_23 : decode cX10_wornEyes 23 = .ok (.ishl, 1) := by decide +kernel
theorem dX10_wornEyes_24 : decode cX10_wornEyes 24 = .ok (.ior, 1) := by decide +kernel
theorem dX10_wornEyes_25 : decode cX10_wornEyes 25 = .ok (.istore_n 1, 1) := by decide +kernel
theorem dX10_wornEyes_26 : decode cX10_wornEyes 26 = .ok (.iinc 2 1, 3) := by decide +kernel
theorem dX10_wornEyes_29 : decode cX10_wornEyes 29 = .ok (.goto (-25), 3) := by decide +kernel
theorem dX10_wornEyes_32 : decode cX10_wornEyes 32 = .ok (.iload_n 1, 1) := by decide +kernel
theorem dX10_wornEyes_33 : decode cX10_wornEyes 33 = .ok (.ireturn, 1) := by decide +kernel
theorem dX11_init_0 : decode cX11_init 0 = .ok (.aload_n 0, 1) := by decide +kernel
theorem dX11_init_1 : decode cX11_init 1 = .ok (.invokespecial 1, 3) := by decide +kernel
theorem dX11_init_4 : decode cX11_init 4 = .ok (.aload_n 0, 1) := by decide +kernel
theorem dX11_init_5 : decode cX11_init 5 = .ok (.new 7, 3) := by decide +kernel
theorem dX11_init_8 : decode cX11_init 8 = .ok (.dup, 1) := by decide +kernel
theorem dX11_init_9 : decode cX11_init 9 = .ok (.bipush 40, 2) := by decide +kernel
theorem dX11_init_11 : decode cX11_init 11 = .ok (.invokespecial 11, 3) := by decide +kernel
theorem dX11_init_14 : decode cX11_init 14 = .ok (.putfield 14, 3) := by decide +kernel
theorem dX11_init_17 : decode cX11_init 17 = .ok (.bipush 7, 2) := by decide +kernel
theorem dX11_init_19 : decode cX11_init 19 = .ok (.anewarray 18, 3) := by decide +kernel
theorem dX11_init_22 : decode cX11_init 22 = .ok (.dup, 1) := by decide +kernel
theorem dX11_init_23 : decode cX11_init 23 = .ok (.iconst 0, 1) := by decide +kernel
theorem dX11_init_24 : decode cX11_init 24 = .ok (.new 18, 3) := by decide +kernel
theorem dX11_init_27 : decode cX11_init 27 = .ok (.dup, 1) := by decide +kernel
theorem dX11_init_28 : decode cX11_init 28 = .ok (.aload_n 0, 1) := by decide +kernel
theorem dX11_init_29 : decode cX11_init 29 = .ok (.getfield 14, 3) := by decide +kernel
theorem dX11_init_32 : decode cX11_init 32 = .ok (.invokespecial 20, 3) := by decide +kernel
theorem dX11_init_35 : decode cX11_init 35 = .ok (.aastore, 1) := by decide +kernel
theorem dX11_init_36 : decode cX11_init 36 = .ok (.dup, 1) := by decide +kernel
theorem dX11_init_37 : decode cX11_init 37 = .ok (.iconst 1, 1) := by decide +kernel
theorem dX11_init_38 : decode cX11_init 38 = .ok (.new 23, 3) := by decide +kernel
theorem dX11_init_41 : decode cX11_init 41 = .ok (.dup, 1) := by decide +kernel
theorem dX11_init_42 : decode cX11_init 42 = .ok (.aload_n 0, 1) := by decide +kernel
theorem dX11_init_43 : decode cX11_init 43 = .ok (.getfield 14, 3) := by decide +kernel
theorem dX11_init_46 : decode cX11_init 46 = .ok (.invokespecial 25, 3) := by decide +kernel
theorem dX11_init_49 : decode cX11_init 49 = .ok (.aastore, 1) := by decide +kernel
theorem dX11_init_50 : decode cX11_init 50 = .ok (.dup, 1) := by decide +kernel
theorem dX11_init_51 : decode cX11_init 51 = .ok (.iconst 2, 1) := by decide +kernel
theorem dX11_init_52 : decode cX11_init 52 = .ok (.new 26, 3) := by decide +kernel
theorem dX11_init_55 : decode cX11_init 55 = .ok (.dup, 1) := by decide +kernel
theorem dX11_init_56 : decode cX11_init 56 = .ok (.aload_n 0, 1) := by decide +kernel
theorem dX11_init_57 : decode cX11_init 57 = .ok (.getfield 14, 3) := by decide +kernel
theorem dX11_init_60 : decode cX11_init 60 = .ok (.invokespecial 28, 3) := by decide +kernel
theorem dX11_init_63 : decode cX11_init 63 = .ok (.aastore, 1) := by decide +kernel
theorem dX11_init_64 : decode cX11_init 64 = .ok (.dup, 1) := by decide +kernel
theorem dX11_init_65 : decode cX11_init 65 = .ok (.iconst 3, 1) := by decide +kernel
theorem dX11_init_66 : decode cX11_init 66 = .ok (.new 29, 3) := by decide +kernel
theorem dX11_init_69 : decode cX11_init 69 = .ok (.dup, 1) := by decide +kernel
theorem dX11_init_70 : decode cX11_init 70 = .ok (.aload_n 0, 1) := by decide +kernel
theorem dX11_init_71 : decode cX11_init 71 = .ok (.getfield 14, 3) := by decide +kernel
theorem dX11_init_74 : decode cX11_init 74 = .ok (.invokespecial 31, 3) := by decide +kernel
theorem dX11_init_77 : decode cX11_init 77 = .ok (.aastore, 1) := by decide +kernel
theorem dX11_init_78 : decode cX11_init 78 = .ok (.dup, 1) := by decide +kernel
theorem dX11_init_79 : decode cX11_init 79 = .ok (.iconst 4, 1) := by decide +kernel
theorem dX11_init_80 : decode cX11_init 80 = .ok (.new 32, 3) := by decide +kernel
theorem dX11_init_83 : decode cX11_init 83 = .ok (.dup, 1) := by decide +kernel
theorem dX11_init_84 : decode cX11_init 84 = .ok (.aload_n 0, 1) := by decide +kernel
theorem dX11_init_85 : decode cX11_init 85 = .ok (.getfield 14, 3) := by decide +kernel
theorem dX11_init_88 : decode cX11_init 88 = .ok (.invokespecial 34, 3) := by decide +kernel
theorem dX11_init_91 : decode cX11_init 91 = .ok (.aastore, 1) := by decide +kernel
theorem dX11_init_92 : decode cX11_init 92 = .ok (.dup, 1) := by decide +kernel
theorem dX11_init_93 : decode cX11_init 93 = .ok (.iconst 5, 1) := by decide +kernel
theorem dX11_init_94 : decode cX11_init 94 = .ok (.new 35, 3) := by decide +kernel
theorem dX11_init_97 : decode cX11_init 97 = .ok (.dup, 1) := by decide +kernel
theorem dX11_init_98 : decode cX11_init 98 = .ok (.aload_n 0, 1) := by decide +kernel
theorem dX11_init_99 : decode cX11_init 99 = .ok (.getfield 14, 3) := by decide +kernel
theorem dX11_init_102 : decode cX11_init 102 = .ok (.invokespecial 37, 3) := by decide +kernel
theorem dX11_init_105 : decode cX11_init 105 = .ok (.aastore, 1) := by decide +kernel
theorem dX11_init_106 : decode cX11_init 106 = .ok (.dup, 1) := by decide +kernel
theorem dX11_init_107 : decode cX11_init 107 = .ok (.bipush 6, 2) := by decide +kernel
theorem dX11_init_109 : decode cX11_init 109 = .ok (.new 38, 3) := by decide +kernel
theorem dX11_init_112 : decode cX11_init 112 = .ok (.dup, 1) := by decide +kernel
theorem dX11_init_113 : decode cX11_init 113 = .ok (.aload_n 0, 1) := by decide +kernel
theorem dX11_init_114 : decode cX11_init 114 = .ok (.getfield 14, 3) := by decide +kernel
theorem dX11_init_117 : decode cX11_init 117 = .ok (.invokespecial 40, 3) := by decide +kernel
theorem dX11_init_120 : decode cX11_init 120 = .ok (.aastore, 1) := by decide +kernel
theorem dX11_init_121 : decode cX11_init 121 = .ok (.astore_n 1, 1) := by decide +kernel
theorem dX11_init_122 : decode cX11_init 122 = .ok (.aload_n 0, 1) := by decide +kernel
theorem dX11_init_123 : decode cX11_init 123 = .ok (.aload_n 1, 1) := by decide +kernel
theorem dX11_init_124 : decode cX11_init 124 = .ok (.putfield 41, 3) := by decide +kernel
theorem dX11_init_127 : decode cX11_init 127 = .ok (.aload_n 0, 1) := by decide +kernel
theorem dX11_init_128 : decode cX11_init 128 = .ok (.new 45, 3) := by decide +kernel
theorem dX11_init_131 : decode cX11_init 131 = .ok (.dup, 1) := by decide +kernel
theorem dX11_init_132 : decode cX11_init 132 = .ok (.invokespecial 47, 3) := by decide +kernel
theorem dX11_init_135 : decode cX11_init 135 = .ok (.putfield 48, 3) := by decide +kernel
theorem dX11_init_138 : decode cX11_init 138 = .ok (.aload_n 0, 1) := by decide +kernel
theorem dX11_init_139 : decode cX11_init 139 = .ok (.new 45, 3) := by decide +kernel
theorem dX11_init_142 : decode cX11_init 142 = .ok (.dup, 1) := by decide +kernel
theorem dX11_init_143 : decode cX11_init 143 = .ok (.invokespecial 47, 3) := by decide +kernel
theorem dX11_init_146 : decode cX11_init 146 = .ok (.putfield 52, 3) := by decide +kernel
theorem dX11_init_149 : decode cX11_init 149 = .ok (.aload_n 0, 1) := by decide +kernel
theorem dX11_init_150 : decode cX11_init 150 = .ok (.new 55, 3) := by decide +kernel
theorem dX11_init_153 : decode cX11_init 153 = .ok (.dup, 1) := by decide +kernel
theorem dX11_init_154 : decode cX11_init 154 = .ok (.aload_n 0, 1) := by decide +kernel
theorem dX11_init_155 : decode cX11_init 155 = .ok (.getfield 48, 3) := by decide +kernel
theorem dX11_init_158 : decode cX11_init 158 = .ok (.aload_n 1, 1) := by decide +kernel
theorem dX11_init_159 : decode cX11_init 159 = .ok (.invokespecial 57, 3) := by decide +kernel
theorem dX11_init_162 : decode cX11_init 162 = .ok (.putfield 60, 3) := by decide +kernel
theorem dX11_init_165 : decode cX11_init 165 = .ok (.aload_n 0, 1) := by decide +kernel
theorem dX11_init_166 : decode cX11_init 166 = .ok (.new 55, 3) := by decide +kernel
theorem dX11_init_169 : decode cX11_init 169 = .ok (.dup, 1) := by decide +kernel
theorem dX11_init_170 : decode cX11_init 170 = .ok (.aload_n 0, 1) := by decide +kernel
theorem dX11_init_171 : decode cX11_init 171 = .ok (.getfield 48, 3) := by decide +kernel
theorem dX11_init_174 : decode cX11_init 174 = .ok (.aload_n 1, 1) := by decide +kernel
theorem dX11_init_175 : decode cX11_init 175 = .ok (.invokespecial 57, 3) := by decide +kernel
theorem dX11_init_178 : decode cX11_init 178 = .ok (.putfield 64, 3) := by decide +kernel
theorem dX11_init_181 : decode cX11_init 181 = .ok (.aload_n 0, 1) := by decide +kernel
theorem dX11_init_182 : decode cX11_init 182 = .ok (.new 55, 3) := by decide +kernel
theorem dX11_init_185 : decode cX11_init 185 = .ok (.dup, 1) := by decide +kernel
theorem dX11_init_186 : decode cX11_init 186 = .ok (.aload_n 0, 1) := by decide +kernel
theorem dX11_init_187 : decode cX11_init 187 = .ok (.getfield 52, 3) := by decide +kernel
theorem dX11_init_190 : decode cX11_init 190 = .ok (.aload_n 1, 1) := by decide +kernel
theorem dX11_init_191 : decode cX11_init 191 = .ok (.invokespecial 57, 3) := by decide +kernel
theorem dX11_init_194 : decode cX11_init 194 = .ok (.putfield 67, 3) := by decide +kernel
theorem dX11_init_197 : decode cX11_init 197 = .ok (.aload_n 0, 1) := by decide +kernel
theorem dX11_init_198 : decode cX11_init 198 = .ok (.new 70, 3) := by decide +kernel
theorem dX11_init_201 : decode cX11_init 201 = .ok (.dup, 1) := by decide +kernel
theorem dX11_init_202 : decode cX11_init 202 = .ok (.invokespecial 72, 3) := by decide +kernel
theorem dX11_init_205 : decode cX11_init 205 = .ok (.putfield 73, 3) := by decide +kernel
theorem dX11_init_208 : decode cX11_init 208 = .ok (.aload_n 0, 1) := by decide +kernel
theorem dX11_init_209 : decode cX11_init 209 = .ok (.new 7, 3) := by decide +kernel
theorem dX11_init_212 : decode cX11_init 212 = .ok (.dup, 1) := by decide +kernel
theorem dX11_init_213 : decode cX11_init 213 = .ok (.bipush 50, 2) := by decide +kernel
theorem dX11_init_215 : decode cX11_init 215 = .ok (.invokespecial 11, 3) := by decide +kernel
theorem dX11_init_218 : decode cX11_init 218 = .ok (.putfield 77, 3) := by decide +kernel
theorem dX11_init_221 : decode cX11_init 221 = .ok (.aload_n 0, 1) := by decide +kernel
theorem dX11_init_222 : decode cX11_init 222 = .ok (.new 7, 3) := by decide +kernel
theorem dX11_init_225 : decode cX11_init 225 = .ok (.dup, 1) := by decide +kernel
theorem dX11_init_226 : decode cX11_init 226 = .ok (.bipush 50, 2) := by decide +kernel
theorem dX11_init_228 : decode cX11_init 228 = .ok (.invokespecial 11, 3) := by decide +kernel
theorem dX11_init_231 : decode cX11_init 231 = .ok (.putfield 80, 3) := by decide +kernel
theorem dX11_init_234 : decode cX11_init 234 = .ok (.aload_n 0, 1) := by decide +kernel
theorem dX11_init_235 : decode cX11_init 235 = .ok (.new 7, 3) := by decide +kernel
theorem dX11_init_238 : decode cX11_init 238 = .ok (.dup, 1) := by decide +kernel
theorem dX11_init_239 : decode cX11_init 239 = .ok (.bipush 20, 2) := by decide +kernel
theorem dX11_init_241 : decode cX11_init 241 = .ok (.invokespecial 11, 3) := by decide +kernel
theorem dX11_init_244 : decode cX11_init 244 = .ok (.putfield 83, 3) := by decide +kernel
theorem dX11_init_247 : decode cX11_init 247 = .ok (.aload_n 0, 1) := by decide +kernel
theorem dX11_init_248 : decode cX11_init 248 = .ok (.new 7, 3) := by decide +kernel
theorem dX11_init_251 : decode cX11_init 251 = .ok (.dup, 1) := by decide +kernel
theorem dX11_init_252 : decode cX11_init 252 = .ok (.bipush 20, 2) := by decide +kernel
theorem dX11_init_254 : decode cX11_init 254 = .ok (.invokespecial 11, 3) := by decide +kernel
theorem dX11_init_257 : decode cX11_init 257 = .ok (.putfield 86, 3) := by decide +kernel
theorem dX11_init_260 : decode cX11_init 260 = .ok (.aload_n 0, 1) := by decide +kernel
theorem dX11_init_261 : decode cX11_init 261 = .ok (.iconst 4, 1) := by decide +kernel
theorem dX11_init_262 : decode cX11_init 262 = .ok (.anewarray 7, 3) := by decide +kernel
theorem dX11_init_265 : decode cX11_init 265 = .ok (.putfield 89, 3) := by decide +kernel
theorem dX11_init_268 : decode cX11_init 268 = .ok (.iconst 0, 1) := by decide +kernel
theorem dX11_init_269 : decode cX11_init 269 = .ok (.istore_n 2, 1) := by decide +kernel
theorem dX11_init_270 : decode cX11_init 270 = .ok (.iload_n 2, 1) := by decide +kernel
theorem dX11_init_271 : decode cX11_init 271 = .ok (.iconst 4, 1) := by decide +kernel
theorem dX11_init_272 : decode cX11_init 272 = .ok (.if_icmp .ge 24, 3) := by decide +kernel
theorem dX11_init_275 : decode cX11_init 275 = .ok (.aload_n 0, 1) := by decide +kernel
theorem dX11_init_276 : decode cX11_init 276 = .ok (.getfield 89, 3) := by decide +kernel
theorem dX11_init_279 : decode cX11_init 279 = .ok (.iload_n 2, 1) := by decide +kernel
theorem dX11_init_280 : decode cX11_init 280 = .ok (.new 7, 3) := by decide +kernel
theorem dX11_init_283 : decode cX11_init 283 = .ok (.dup, 1) := by decide +kernel
theorem dX11_init_284 : decode cX11_init 284 = .ok (.bipush 40, 2) := by decide +kernel
theorem dX11_init_286 : decode cX11_init 286 = .ok (.invokespecial 11, 3) := by decide +kernel
theorem dX11_init_289 : decode cX11_init 289 = .ok (.aastore, 1) := by decide +kernel
theorem dX11_init_290 : decode cX11_init 290 = .ok (.iinc 2 1, 3) := by decide +kernel
theorem dX11_init_293 : decode cX11_init 293 = .ok (.goto (-23), 3) := by decide +kernel
theorem dX11_init_296 : decode cX11_init 296 = .ok (.aload_n 0, 1) := by decide +kernel
theorem dX11_init_297 : decode cX11_init 297 = .ok (.bipush 6, 2) := by decide +kernel
theorem dX11_init_299 : decode cX11_init 299 = .ok (.newarray .int, 2) := by decide +kernel
theorem dX11_init_301 : decode cX11_init 301 = .ok (.putfield 93, 3) := by decide +kernel
theorem dX11_init_304 : decode cX11_init 304 = .ok (.aload_n 0, 1) := by decide +kernel
theorem dX11_init_305 : decode cX11_init 305 = .ok (.iconst 0, 1) := by decide +kernel
theorem dX11_init_306 : decode cX11_init 306 = .ok (.putfield 97, 3) := by decide +kernel
theorem dX11_init_309 : decode cX11_init 309 = .ok (.return_, 1) := by decide +kernel
theorem dX11_dread_0 : decode cX11_dread 0 = .ok (.iload_n 1, 1) := by decide +kernel
theorem dX11_dread_1 : decode cX11_dread 1 = .ok (.invokestatic 101, 3) := by decide +kernel
theorem dX11_dread_4 : decode cX11_dread 4 = .ok (.ifCond .ne 13, 3) := by decide +kernel
theorem dX11_dread_7 : decode cX11_dread 7 = .ok (.iload_n 2, 1) := by decide +kernel
theorem dX11_dread_8 : decode cX11_dread 8 = .ok (.iconst 0, 1) := by decide +kernel
theorem dX11_dread_9 : decode cX11_dread 9 = .ok (.bipush 9, 2) := by decide +kernel
theorem dX11_dread_11 : decode cX11_dread 11 = .ok (.invokestatic 105, 3) := by decide +kernel
theorem dX11_dread_14 : decode cX11_dread 14 = .ok (.ifCond .eq 9, 3) := by decide +kernel
theorem dX11_dread_17 : decode cX11_dread 17 = .ok (.aload_n 0, 1) := by decide +kernel
theorem dX11_dread_18 : decode cX11_dread 18 = .ok (.iconst 1, 1) := by decide +kernel
theorem dX11_dread_19 : decode cX11_dread 19 = .ok (.invokevirtual 109, 3) := by decide +kernel
theorem dX11_dread_22 : decode cX11_dread 22 = .ok (.ireturn, 1) := by decide +kernel
theorem dX11_dread_23 : decode cX11_dread 23 = .ok (.aload_n 0, 1) := by decide +kernel
theorem dX11_dread_24 : decode cX11_dread 24 = .ok (.getfield 60, 3) := by decide +kernel
theorem dX11_dread_27 : decode cX11_dread 27 = .ok (.getfield 113, 3) := by decide +kernel
theorem dX11_dread_30 : decode cX11_dread 30 = .ok (.iload_n 1, 1) := by decide +kernel
theorem dX11_dread_31 : decode cX11_dread 31 = .ok (.iaload, 1) := by decide +kernel
theorem dX11_dread_32 : decode cX11_dread 32 = .ok (.istore_n 3, 1) := by decide +kernel
theorem dX11_dread_33 : decode cX11_dread 33 = .ok (.aload_n 0, 1) := by decide +kernel
theorem dX11_dread_34 : decode cX11_dread 34 = .ok (.getfield 60, 3) := by decide +kernel
theorem dX11_dread_37 : decode cX11_dread 37 = .ok (.getfield 113, 3) := by decide +kernel
theorem dX11_dread_40 : decode cX11_dread 40 = .ok (.iload_n 1, 1) := by decide +kernel
theorem dX11_dread_41 : decode cX11_dread 41 = .ok (.iload_n 2, 1) := by decide +kernel
theorem dX11_dread_42 : decode cX11_dread 42 = .ok (.iastore, 1) := by decide +kernel
theorem dX11_dread_43 : decode cX11_dread 43 = .ok (.iload_n 3, 1) := by decide +kernel
theorem dX11_dread_44 : decode cX11_dread 44 = .ok (.ireturn, 1) := by decide +kernel
theorem dX11_eye_0 : decode cX11_eye 0 = .ok (.iload_n 1, 1) := by decide +kernel
theorem dX11_eye_1 : decode cX11_eye 1 = .ok (.invokestatic 116, 3) := by decide +kernel
theorem dX11_eye_4 : decode cX11_eye 4 = .ok (.ifCond .ne 13, 3) := by decide +kernel
theorem dX11_eye_7 : decode cX11_eye 7 = .ok (.iload_n 2, 1) := by decide +kernel
theorem dX11_eye_8 : decode cX11_eye 8 = .ok (.iconst 0, 1) := by decide +kernel
theorem dX11_eye_9 : decode cX11_eye 9 = .ok (.bipush 9, 2) := by decide +kernel
theorem dX11_eye_11 : decode cX11_eye 11 = .ok (.invokestatic 105, 3) := by decide +kernel
theorem dX11_eye_14 : decode cX11_eye 14 = .ok (.ifCond .eq 9, 3) := by decide +kernel
theorem dX11_eye_17 : decode cX11_eye 17 = .ok (.aload_n 0, 1) := by decide +kernel
theorem dX11_eye_18 : decode cX11_eye 18 = .ok (.iconst 1, 1) := by decide +kernel
theorem dX11_eye_19 : decode cX11_eye 19 = .ok (.invokevirtual 109, 3) := by decide +kernel
theorem dX11_eye_22 : decode cX11_eye 22 = .ok (.ireturn, 1) := by decide +kernel
theorem dX11_eye_23 : decode cX11_eye 23 = .ok (.aload_n 0, 1) := by decide +kernel
theorem dX11_eye_24 : decode cX11_eye 24 = .ok (.getfield 60, 3) := by decide +kernel
theorem dX11_eye_27 : decode cX11_eye 27 = .ok (.getfield 119, 3) := by decide +kernel
theorem dX11_eye_30 : decode cX11_eye 30 = .ok (.bipush 8, 2) := by decide +kernel
theorem dX11_eye_32 : decode cX11_eye 32 = .ok (.if_icmp .lt 9, 3) := by decide +kernel
theorem dX11_eye_35 : decode cX11_eye 35 = .ok (.aload_n 0, 1) := by decide +kernel
theorem dX11_eye_36 : decode cX11_eye 36 = .ok (.iconst 4, 1) := by decide +kernel
theorem dX11_eye_37 : decode cX11_eye 37 = .ok (.invokevirtual 109, 3) := by decide +kernel
theorem dX11_eye_40 : decode cX11_eye 40 = .ok (.ireturn, 1) := by decide +kernel
theorem dX11_eye_41 : decode cX11_eye 41 = .ok (.aload_n 0, 1) := by decide +kernel
