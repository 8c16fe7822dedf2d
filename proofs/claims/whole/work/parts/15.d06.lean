theorem dX12_lend_42 : decode cX12_lend 42 = .ok (.iconst 2, 1) := by decide +kernel
theorem dX12_lend_43 : decode cX12_lend 43 = .ok (.iaload, 1) := by decide +kernel
theorem dX12_lend_44 : decode cX12_lend 44 = .ok (.if_icmp .ge 118, 3) := by decide +kernel
theorem dX12_lend_47 : decode cX12_lend 47 = .ok (.iconst 0, 1) := by decide +kernel
theorem dX12_lend_48 : decode cX12_lend 48 = .ok (.istore 5, 2) := by decide +kernel
theorem dX12_lend_50 : decode cX12_lend 50 = .ok (.iload 5, 2) := by decide +kernel
theorem dX12_lend_52 : decode cX12_lend 52 = .ok (.iconst 2, 1) := by decide +kernel
theorem dX12_lend_53 : decode cX12_lend 53 = .ok (.aload_n 0, 1) := by decide +kernel
theorem dX12_lend_54 : decode cX12_lend 54 = .ok (.getfield 7, 3) := by decide +kernel
theorem dX12_lend_57 : decode cX12_lend 57 = .ok (.iconst 3, 1) := by decide +kernel
theorem dX12_lend_58 : decode cX12_lend 58 = .ok (.iaload, 1) := by decide +kernel
theorem dX12_lend_59 : decode cX12_lend 59 = .ok (.imul, 1) := by decide +kernel
theorem dX12_lend_60 : decode cX12_lend 60 = .ok (.if_icmp .ge 96, 3) := by decide +kernel
theorem dX12_lend_63 : decode cX12_lend 63 = .ok (.aload_n 0, 1) := by decide +kernel
theorem dX12_lend_64 : decode cX12_lend 64 = .ok (.iload 4, 2) := by decide +kernel
theorem dX12_lend_66 : decode cX12_lend 66 = .ok (.invokevirtual 72, 3) := by decide +kernel
theorem dX12_lend_69 : decode cX12_lend 69 = .ok (.ifCond .ge 87, 3) := by decide +kernel
theorem dX12_lend_72 : decode cX12_lend 72 = .ok (.aload_n 0, 1) := by decide +kernel
theorem dX12_lend_73 : decode cX12_lend 73 = .ok (.iload 5, 2) := by decide +kernel
theorem dX12_lend_75 : decode cX12_lend 75 = .ok (.iconst 2, 1) := by decide +kernel
theorem dX12_lend_76 : decode cX12_lend 76 = .ok (.idiv, 1) := by decide +kernel
theorem dX12_lend_77 : decode cX12_lend 77 = .ok (.iload 5, 2) := by decide +kernel
theorem dX12_lend_79 : decode cX12_lend 79 = .ok (.iconst 2, 1) := by decide +kernel
theorem dX12_lend_80 : decode cX12_lend 80 = .ok (.irem, 1) := by decide +kernel
theorem dX12_lend_81 : decode cX12_lend 81 = .ok (.invokevirtual 63, 3) := by decide +kernel
theorem dX12_lend_84 : decode cX12_lend 84 = .ok (.ifCond .ge 66, 3) := by decide +kernel
theorem dX12_lend_87 : decode cX12_lend 87 = .ok (.aload_n 0, 1) := by decide +kernel
theorem dX12_lend_88 : decode cX12_lend 88 = .ok (.iload 5, 2) := by decide +kernel
theorem dX12_lend_90 : decode cX12_lend 90 = .ok (.iconst 2, 1) := by decide +kernel
theorem dX12_lend_91 : decode cX12_lend 91 = .ok (.idiv, 1) := by decide +kernel
theorem dX12_lend_92 : decode cX12_lend 92 = .ok (.iload 5, 2) := by decide +kernel
theorem dX12_lend_94 : decode cX12_lend 94 = .ok (.iconst 2, 1) := by decide +kernel
theorem dX12_lend_95 : decode cX12_lend 95 = .ok (.irem, 1) := by decide +kernel
theorem dX12_lend_96 : decode cX12_lend 96 = .ok (.iload 4, 2) := by decide +kernel
theorem dX12_lend_98 : decode cX12_lend 98 = .ok (.invokevirtual 81, 3) := by decide +kernel
theorem dX12_lend_101 : decode cX12_lend 101 = .ok (.aload_n 0, 1) := by decide +kernel
theorem dX12_lend_102 : decode cX12_lend 102 = .ok (.iload_n 1, 1) := by decide +kernel
theorem dX12_lend_103 : decode cX12_lend 103 = .ok (.invokevirtual 213, 3) := by decide +kernel
theorem dX12_lend_106 : decode cX12_lend 106 = .ok (.istore 6, 2) := by decide +kernel
theorem dX12_lend_108 : decode cX12_lend 108 = .ok (.iload 6, 2) := by decide +kernel
theorem dX12_lend_110 : decode cX12_lend 110 = .ok (.iload_n 3, 1) := by decide +kernel
theorem dX12_lend_111 : decode cX12_lend 111 = .ok (.if_icmp .le 24, 3) := by decide +kernel
theorem dX12_lend_114 : decode cX12_lend 114 = .ok (.bipush 100, 2) := by decide +kernel
theorem dX12_lend_116 : decode cX12_lend 116 = .ok (.iload 4, 2) := by decide +kernel
theorem dX12_lend_118 : decode cX12_lend 118 = .ok (.imul, 1) := by decide +kernel
theorem dX12_lend_119 : decode cX12_lend 119 = .ok (.bipush 10, 2) := by decide +kernel
theorem dX12_lend_121 : decode cX12_lend 121 = .ok (.iload 5, 2) := by decide +kernel
theorem dX12_lend_123 : decode cX12_lend 123 = .ok (.iconst 2, 1) := by decide +kernel
theorem dX12_lend_124 : decode cX12_lend 124 = .ok (.idiv, 1) := by decide +kernel
theorem dX12_lend_125 : decode cX12_lend 125 = .ok (.imul, 1) := by decide +kernel
theorem dX12_lend_126 : decode cX12_lend 126 = .ok (.iadd, 1) := by decide +kernel
theorem dX12_lend_127 : decode cX12_lend 127 = .ok (.iload 5, 2) := by decide +kernel
theorem dX12_lend_129 : decode cX12_lend 129 = .ok (.iconst 2, 1) := by decide +kernel
theorem dX12_lend_130 : decode cX12_lend 130 = .ok (.irem, 1) := by decide +kernel
theorem dX12_lend_131 : decode cX12_lend 131 = .ok (.iadd, 1) := by decide +kernel
theorem dX12_lend_132 : decode cX12_lend 132 = .ok (.goto 4, 3) := by decide +kernel
theorem dX12_lend_135 : decode cX12_lend 135 = .ok (.iload_n 2, 1) := by decide +kernel
theorem dX12_lend_136 : decode cX12_lend 136 = .ok (.istore_n 2, 1) := by decide +kernel
theorem dX12_lend_137 : decode cX12_lend 137 = .ok (.iload 6, 2) := by decide +kernel
theorem dX12_lend_139 : decode cX12_lend 139 = .ok (.iload_n 3, 1) := by decide +kernel
theorem dX12_lend_140 : decode cX12_lend 140 = .ok (.if_icmp .le 8, 3) := by decide +kernel
theorem dX12_lend_143 : decode cX12_lend 143 = .ok (.iload 6, 2) := by decide +kernel
theorem dX12_lend_145 : decode cX12_lend 145 = .ok (.goto 4, 3) := by decide +kernel
theorem dX12_lend_148 : decode cX12_lend 148 = .ok (.iload_n 3, 1) := by decide +kernel
theorem dX12_lend_149 : decode cX12_lend 149 = .ok (.istore_n 3, 1) := by decide +kernel
theorem dX12_lend_150 : decode cX12_lend 150 = .ok (.iinc 5 1, 3) := by decide +kernel
theorem dX12_lend_153 : decode cX12_lend 153 = .ok (.goto (-103), 3) := by decide +kernel
theorem dX12_lend_156 : decode cX12_lend 156 = .ok (.iinc 4 1, 3) := by decide +kernel
theorem dX12_lend_159 : decode cX12_lend 159 = .ok (.goto (-123), 3) := by decide +kernel
theorem dX12_lend_162 : decode cX12_lend 162 = .ok (.iload_n 2, 1) := by decide +kernel
theorem dX12_lend_163 : decode cX12_lend 163 = .ok (.ireturn, 1) := by decide +kernel
theorem dX12_blind_0 : decode cX12_blind 0 = .ok (.iload_n 1, 1) := by decide +kernel
theorem dX12_blind_1 : decode cX12_blind 1 = .ok (.iconst 0, 1) := by decide +kernel
theorem dX12_blind_2 : decode cX12_blind 2 = .ok (.bipush 60, 2) := by decide +kernel
theorem dX12_blind_4 : decode cX12_blind 4 = .ok (.invokestatic 41, 3) := by decide +kernel
theorem dX12_blind_7 : decode cX12_blind 7 = .ok (.ifCond .ne 10, 3) := by decide +kernel
theorem dX12_blind_10 : decode cX12_blind 10 = .ok (.aload_n 0, 1) := by decide +kernel
theorem dX12_blind_11 : decode cX12_blind 11 = .ok (.ldc 53, 2) := by decide +kernel
theorem dX12_blind_13 : decode cX12_blind 13 = .ok (.invokevirtual 54, 3) := by decide +kernel
theorem dX12_blind_16 : decode cX12_blind 16 = .ok (.ireturn, 1) := by decide +kernel
theorem dX12_blind_17 : decode cX12_blind 17 = .ok (.aload_n 0, 1) := by decide +kernel
theorem dX12_blind_18 : decode cX12_blind 18 = .ok (.aload_n 0, 1) := by decide +kernel
theorem dX12_blind_19 : decode cX12_blind 19 = .ok (.getfield 7, 3) := by decide +kernel
theorem dX12_blind_22 : decode cX12_blind 22 = .ok (.aload_n 0, 1) := by decide +kernel
theorem dX12_blind_23 : decode cX12_blind 23 = .ok (.getfield 16, 3) := by decide +kernel
theorem dX12_blind_26 : decode cX12_blind 26 = .ok (.invokevirtual 170, 3) := by decide +kernel
theorem dX12_blind_29 : decode cX12_blind 29 = .ok (.aload_n 0, 1) := by decide +kernel
theorem dX12_blind_30 : decode cX12_blind 30 = .ok (.iload_n 1, 1) := by decide +kernel
theorem dX12_blind_31 : decode cX12_blind 31 = .ok (.invokevirtual 195, 3) := by decide +kernel
theorem dX12_blind_34 : decode cX12_blind 34 = .ok (.pop, 1) := by decide +kernel
theorem dX12_blind_35 : decode cX12_blind 35 = .ok (.sipush 1023, 3) := by decide +kernel
theorem dX12_blind_38 : decode cX12_blind 38 = .ok (.aload_n 0, 1) := by decide +kernel
theorem dX12_blind_39 : decode cX12_blind 39 = .ok (.invokevirtual 210, 3) := by decide +kernel
theorem dX12_blind_42 : decode cX12_blind 42 = .ok (.iconst (-1), 1) := by decide +kernel
theorem dX12_blind_43 : decode cX12_blind 43 = .ok (.ixor, 1) := by decide +kernel
theorem dX12_blind_44 : decode cX12_blind 44 = .ok (.iand, 1) := by decide +kernel
theorem dX12_blind_45 : decode cX12_blind 45 = .ok (.istore_n 2, 1) := by decide +kernel
theorem dX12_blind_46 : decode cX12_blind 46 = .ok (.aload_n 0, 1) := by decide +kernel
theorem dX12_blind_47 : decode cX12_blind 47 = .ok (.aload_n 0, 1) := by decide +kernel
theorem dX12_blind_48 : decode cX12_blind 48 = .ok (.getfield 16, 3) := by decide +kernel
theorem dX12_blind_51 : decode cX12_blind 51 = .ok (.aload_n 0, 1) := by decide +kernel
theorem dX12_blind_52 : decode cX12_blind 52 = .ok (.getfield 7, 3) := by decide +kernel
theorem dX12_blind_55 : decode cX12_blind 55 = .ok (.invokevirtual 170, 3) := by decide +kernel
theorem dX12_blind_58 : decode cX12_blind 58 = .ok (.iload_n 2, 1) := by decide +kernel
theorem dX12_blind_59 : decode cX12_blind 59 = .ok (.ireturn, 1) := by decide +kernel
theorem dX12_agreeing_0 : decode cX12_agreeing 0 = .ok (.iconst 0, 1) := by decide +kernel
theorem dX12_agreeing_1 : decode cX12_agreeing 1 = .ok (.istore_n 1, 1) := by decide +kernel
theorem dX12_agreeing_2 : decode cX12_agreeing 2 = .ok (.iconst 0, 1) := by decide +kernel
theorem dX12_agreeing_3 : decode cX12_agreeing 3 = .ok (.istore_n 2, 1) := by decide +kernel
theorem dX12_agreeing_4 : decode cX12_agreeing 4 = .ok (.iload_n 2, 1) := by decide +kernel
theorem dX12_agreeing_5 : decode cX12_agreeing 5 = .ok (.bipush 10, 2) := by decide +kernel
theorem dX12_agreeing_7 : decode cX12_agreeing 7 = .ok (.if_icmp .ge 73, 3) := by decide +kernel
theorem dX12_agreeing_10 : decode cX12_agreeing 10 = .ok (.iconst 0, 1) := by decide +kernel
theorem dX12_agreeing_11 : decode cX12_agreeing 11 = .ok (.istore_n 3, 1) := by decide +kernel
theorem dX12_agreeing_12 : decode cX12_agreeing 12 = .ok (.iconst 0, 1) := by decide +kernel
theorem dX12_agreeing_13 : decode cX12_agreeing 13 = .ok (.istore 4, 2) := by decide +kernel
theorem dX12_agreeing_15 : decode cX12_agreeing 15 = .ok (.iload 4, 2) := by decide +kernel
theorem dX12_agreeing_17 : decode cX12_agreeing 17 = .ok (.aload_n 0, 1) := by decide +kernel
theorem dX12_agreeing_18 : decode cX12_agreeing 18 = .ok (.getfield 7, 3) := by decide +kernel
theorem dX12_agreeing_21 : decode cX12_agreeing 21 = .ok (.iconst 3, 1) := by decide +kernel
theorem dX12_agreeing_22 : decode cX12_agreeing 22 = .ok (.iaload, 1) := by decide +kernel
theorem dX12_agreeing_23 : decode cX12_agreeing 23 = .ok (.if_icmp .ge 40, 3) := by decide +kernel
theorem dX12_agreeing_26 : decode cX12_agreeing 26 = .ok (.aload_n 0, 1) := by decide +kernel
theorem dX12_agreeing_27 : decode cX12_agreeing 27 = .ok (.iload 4, 2) := by decide +kernel
theorem dX12_agreeing_29 : decode cX12_agreeing 29 = .ok (.invokevirtual 87, 3) := by decide +kernel
theorem dX12_agreeing_32 : decode cX12_agreeing 32 = .ok (.istore 5, 2) := by decide +kernel
theorem dX12_agreeing_34 : decode cX12_agreeing 34 = .ok (.iload_n 3, 1) := by decide +kernel
theorem dX12_agreeing_35 : decode cX12_agreeing 35 = .ok (.iload 5, 2) := by decide +kernel
theorem dX12_agreeing_37 : decode cX12_agreeing 37 = .ok (.ifCond .lt 17, 3) := by decide +kernel
theorem dX12_agreeing_40 : decode cX12_agreeing 40 = .ok (.aload_n 0, 1) := by decide +kernel
theorem dX12_agreeing_41 : decode cX12_agreeing 41 = .ok (.iload 5, 2) := by decide +kernel
theorem dX12_agreeing_43 : decode cX12_agreeing 43 = .ok (.invokevirtual 75, 3) := by decide +kernel
theorem dX12_agreeing_46 : decode cX12_agreeing 46 = .ok (.iload_n 2, 1) := by decide +kernel
theorem dX12_agreeing_47 : decode cX12_agreeing 47 = .ok (.if_icmp .ne 7, 3) := by decide +kernel
theorem dX12_agreeing_50 : decode cX12_agreeing 50 = .ok (.iconst 1, 1) := by decide +kernel
theorem dX12_agreeing_51 : decode cX12_agreeing 51 = .ok (.goto 4, 3) := by decide +kernel
theorem dX12_agreeing_54 : decode cX12_agreeing 54 = .ok (.iconst 0, 1) := by decide +kernel
theorem dX12_agreeing_55 : decode cX12_agreeing 55 = .ok (.iadd, 1) := by decide +kernel
theorem dX12_agreeing_56 : decode cX12_agreeing 56 = .ok (.istore_n 3, 1) := by decide +kernel
theorem dX12_agreeing_57 : decode cX12_agreeing 57 = .ok (.iinc 4 1, 3) := by decide +kernel
theorem dX12_agreeing_60 : decode cX12_agreeing 60 = .ok (.goto (-45), 3) := by decide +kernel
theorem dX12_agreeing_63 : decode cX12_agreeing 63 = .ok (.iload_n 3, 1) := by decide +kernel
theorem dX12_agreeing_64 : decode cX12_agreeing 64 = .ok (.iload_n 1, 1) := by decide +kernel
theorem dX12_agreeing_65 : decode cX12_agreeing 65 = .ok (.if_icmp .le 7, 3) := by decide +kernel
theorem dX12_agreeing_68 : decode cX12_agreeing 68 = .ok (.iload_n 3, 1) := by decide +kernel
theorem dX12_agreeing_69 : decode cX12_agreeing 69 = .ok (.goto 4, 3) := by decide +kernel
theorem dX12_agreeing_72 : decode cX12_agreeing 72 = .ok (.iload_n 1, 1) := by decide +kernel
theorem dX12_agreeing_73 : decode cX12_agreeing 73 = .ok (.istore_n 1, 1) := by decide +kernel
theorem dX12_agreeing_74 : decode cX12_agreeing 74 = .ok (.iinc 2 1, 3) := by decide +kernel
theorem dX12_agreeing_77 : decode cX12_agreeing 77 = .ok (.goto (-73), 3) := by decide +kernel
theorem dX12_agreeing_80 : decode cX12_agreeing 80 = .ok (.iload_n 1, 1) := by decide +kernel
theorem dX12_agreeing_81 : decode cX12_agreeing 81 = .ok (.ireturn, 1) := by decide +kernel
theorem dX12_agree_0 : decode cX12_agree 0 = .ok (.iload_n 1, 1) := by decide +kernel
theorem dX12_agree_1 : decode cX12_agree 1 = .ok (.iconst 0, 1) := by decide +kernel
theorem dX12_agree_2 : decode cX12_agree 2 = .ok (.iconst 1, 1) := by decide +kernel
theorem dX12_agree_3 : decode cX12_agree 3 = .ok (.invokestatic 41, 3) := by decide +kernel
theorem dX12_agree_6 : decode cX12_agree 6 = .ok (.ifCond .ne 10, 3) := by decide +kernel
theorem dX12_agree_9 : decode cX12_agree 9 = .ok (.aload_n 0, 1) := by decide +kernel
theorem dX12_agree_10 : decode cX12_agree 10 = .ok (.ldc 53, 2) := by decide +kernel
theorem dX12_agree_12 : decode cX12_agree 12 = .ok (.invokevirtual 54, 3) := by decide +kernel
theorem dX12_agree_15 : decode cX12_agree 15 = .ok (.ireturn, 1) := by decide +kernel
theorem dX12_agree_16 : decode cX12_agree 16 = .ok (.iconst 0, 1) := by decide +kernel
theorem dX12_agree_17 : decode cX12_agree 17 = .ok (.istore_n 2, 1) := by decide +kernel
theorem dX12_agree_18 : decode cX12_agree 18 = .ok (.iconst 0, 1) := by decide +kernel
theorem dX12_agree_19 : decode cX12_agree 19 = .ok (.istore_n 3, 1) := by decide +kernel
theorem dX12_agree_20 : decode cX12_agree 20 = .ok (.aload_n 0, 1) := by decide +kernel
theorem dX12_agree_21 : decode cX12_agree 21 = .ok (.aload_n 0, 1) := by decide +kernel
theorem dX12_agree_22 : decode cX12_agree 22 = .ok (.getfield 7, 3) := by decide +kernel
theorem dX12_agree_25 : decode cX12_agree 25 = .ok (.aload_n 0, 1) := by decide +kernel
theorem dX12_agree_26 : decode cX12_agree 26 = .ok (.getfield 16, 3) := by decide +kernel
theorem dX12_agree_29 : decode cX12_agree 29 = .ok (.invokevirtual 170, 3) := by decide +kernel
theorem dX12_agree_32 : decode cX12_agree 32 = .ok (.iconst 0, 1) := by decide +kernel
theorem dX12_agree_33 : decode cX12_agree 33 = .ok (.istore 4, 2) := by decide +kernel
theorem dX12_agree_35 : decode cX12_agree 35 = .ok (.iload 4, 2) := by decide +kernel
theorem dX12_agree_37 : decode cX12_agree 37 = .ok (.bipush 12, 2) := by decide +kernel
theorem dX12_agree_39 : decode cX12_agree 39 = .ok (.if_icmp .ge 45, 3) := by decide +kernel
theorem dX12_agree_42 : decode cX12_agree 42 = .ok (.aload_n 0, 1) := by decide +kernel
theorem dX12_agree_43 : decode cX12_agree 43 = .ok (.invokevirtual 216, 3) := by decide +kernel
theorem dX12_agree_46 : decode cX12_agree 46 = .ok (.istore 5, 2) := by decide +kernel
theorem dX12_agree_48 : decode cX12_agree 48 = .ok (.iload 5, 2) := by decide +kernel
theorem dX12_agree_50 : decode cX12_agree 50 = .ok (.iload_n 3, 1) := by decide +kernel
theorem dX12_agree_51 : decode cX12_agree 51 = .ok (.if_icmp .le 8, 3) := by decide +kernel
theorem dX12_agree_54 : decode cX12_agree 54 = .ok (.iload 4, 2) := by decide +kernel
theorem dX12_agree_56 : decode cX12_agree 56 = .ok (.goto 4, 3) := by decide +kernel
theorem dX12_agree_59 : decode cX12_agree 59 = .ok (.iload_n 2, 1) := by decide +kernel
theorem dX12_agree_60 : decode cX12_agree 60 = .ok (.istore_n 2, 1) := by decide +kernel
theorem dX12_agree_61 : decode cX12_agree 61 = .ok (.iload 5, 2) := by decide +kernel
theorem dX12_agree_63 : decode cX12_agree 63 = .ok (.iload_n 3, 1) := by decide +kernel
theorem dX12_agree_64 : decode cX12_agree 64 = .ok (.if_icmp .le 8, 3) := by decide +kernel
theorem dX12_agree_67 : decode cX12_agree 67 = .ok (.iload 5, 2) := by decide +kernel
theorem dX12_agree_69 : decode cX12_agree 69 = .ok (.goto 4, 3) := by decide +kernel
theorem dX12_agree_72 : decode cX12_agree 72 = .ok (.iload_n 3, 1) := by decide +kernel
theorem dX12_agree_73 : decode cX12_agree 73 = .ok (.istore_n 3, 1) := by decide +kernel
theorem dX12_agree_74 : decode cX12_agree 74 = .ok (.aload_n 0, 1) := by decide +kernel
theorem dX12_agree_75 : decode cX12_agree 75 = .ok (.invokevirtual 188, 3) := by decide +kernel
theorem dX12_agree_78 : decode cX12_agree 78 = .ok (.iinc 4 1, 3) := by decide +kernel
theorem dX12_agree_81 : decode cX12_agree 81 = .ok (.goto (-46), 3) := by decide +kernel
theorem dX12_agree_84 : decode cX12_agree 84 = .ok (.aload_n 0, 1) := by decide +kernel
theorem dX12_agree_85 : decode cX12_agree 85 = .ok (.aload_n 0, 1) := by decide +kernel
theorem dX12_agree_86 : decode cX12_agree 86 = .ok (.getfield 16, 3) := by decide +kernel
theorem dX12_agree_89 : decode cX12_agree 89 = .ok (.aload_n 0, 1) := by decide +kernel
theorem dX12_agree_90 : decode cX12_agree 90 = .ok (.getfield 7, 3) := by decide +kernel
theorem dX12_agree_93 : decode cX12_agree 93 = .ok (.invokevirtual 170, 3) := by decide +kernel
theorem dX12_agree_96 : decode cX12_agree 96 = .ok (.iload_n 3, 1) := by decide +kernel
theorem dX12_agree_97 : decode cX12_agree 97 = .ok (.ifCond .ne 10, 3) := by decide +kernel
theorem dX12_agree_100 : decode cX12_agree 100 = .ok (.aload_n 0, 1) := by decide +kernel
theorem dX12_agree_101 : decode cX12_agree 101 = .ok (.ldc 202, 2) := by decide +kernel
theorem dX12_agree_103 : decode cX12_agree 103 = .ok (.invokevirtual 54, 3) := by decide +kernel
theorem dX12_agree_106 : decode cX12_agree 106 = .ok (.ireturn, 1) := by decide +kernel
theorem dX12_agree_107 : decode cX12_agree 107 = .ok (.iload_n 1, 1) := by decide +kernel
theorem dX12_agree_108 : decode cX12_agree 108 = .ok (.ifCond .ne 7, 3) := by decide +kernel
theorem dX12_agree_111 : decode cX12_agree 111 = .ok (.iload_n 2, 1) := by decide +kernel
theorem dX12_agree_112 : decode cX12_agree 112 = .ok (.goto 4, 3) := by decide +kernel
theorem dX12_agree_115 : decode cX12_agree 115 = .ok (.iload_n 3, 1) := by decide +kernel
theorem dX12_agree_116 : decode cX12_agree 116 = .ok (.ireturn, 1) := by decide +kernel
theorem dX12_dreads_0 : decode cX12_dreads 0 = .ok (.iload_n 1, 1) := by decide +kernel
theorem dX12_dreads_1 : decode cX12_dreads 1 = .ok (.iconst 0, 1) := by decide +kernel
theorem dX12_dreads_2 : decode cX12_dreads 2 = .ok (.bipush 60, 2) := by decide +kernel
theorem dX12_dreads_4 : decode cX12_dreads 4 = .ok (.invokestatic 41, 3) := by decide +kernel
theorem dX12_dreads_7 : decode cX12_dreads 7 = .ok (.ifCond .ne 10, 3) := by decide +kernel
theorem dX12_dreads_10 : decode cX12_dreads 10 = .ok (.aload_n 0, 1) := by decide +kernel
theorem dX12_dreads_11 : decode cX12_dreads 11 = .ok (.ldc 53, 2) := by decide +kernel
theorem dX12_dreads_13 : decode cX12_dreads 13 = .ok (.invokevirtual 54, 3) := by decide +kernel
theorem dX12_dreads_16 : decode cX12_dreads 16 = .ok (.ireturn, 1) := by decide +kernel
theorem dX12_dreads_17 : decode cX12_dreads 17 = .ok (.iconst 0, 1) := by decide +kernel
theorem dX12_dreads_18 : decode cX12_dreads 18 = .ok (.istore_n 2, 1) := by decide +kernel
theorem dX12_dreads_19 : decode cX12_dreads 19 = .ok (.aload_n 0, 1) := by decide +kernel
theorem dX12_dreads_20 : decode cX12_dreads 20 = .ok (.aload_n 0, 1) := by decide +kernel
theorem dX12_dreads_21 : decode cX12_dreads 21 = .ok (.getfield 7, 3) := by decide +kernel
theorem dX12_dreads_24 : decode cX12_dreads 24 = .ok (.aload_n 0, 1) := by decide +kernel
theorem dX12_dreads_25 : decode cX12_dreads 25 = .ok (.getfield 16, 3) := by decide +kernel
theorem dX12_dreads_28 : decode cX12_dreads 28 = .ok (.invokevirtual 170, 3) := by decide +kernel
theorem dX12_dreads_31 : decode cX12_dreads 31 = .ok (.iconst 0, 1) := by decide +kernel
theorem dX12_dreads_32 : decode cX12_dreads 32 = .ok (.istore_n 3, 1) := by decide +kernel
theorem dX12_dreads_33 : decode cX12_dreads 33 = .ok (.iload_n 3, 1) := by decide +kernel
theorem dX12_dreads_34 : decode cX12_dreads 34 = .ok (.iload_n 1, 1) := by decide +kernel
theorem dX12_dreads_35 : decode cX12_dreads 35 = .ok (.if_icmp .ge 20, 3) := by decide +kernel
theorem dX12_dreads_38 : decode cX12_dreads 38 = .ok (.aload_n 0, 1) := by decide +kernel
theorem dX12_dreads_39 : decode cX12_dreads 39 = .ok (.invokevirtual 188, 3) := by decide +kernel
theorem dX12_dreads_42 : decode cX12_dreads 42 = .ok (.iload_n 2, 1) := by decide +kernel
theorem dX12_dreads_43 : decode cX12_dreads 43 = .ok (.aload_n 0, 1) := by decide +kernel
theorem dX12_dreads_44 : decode cX12_dreads 44 = .ok (.getfield 174, 3) := by decide +kernel
theorem dX12_dreads_47 : decode cX12_dreads 47 = .ok (.iadd, 1) := by decide +kernel
theorem dX12_dreads_48 : decode cX12_dreads 48 = .ok (.istore_n 2, 1) := by decide +kernel
theorem dX12_dreads_49 : decode cX12_dreads 49 = .ok (.iinc 3 1, 3) := by decide +kernel
theorem dX12_dreads_52 : decode cX12_dreads 52 = .ok (.goto (-19), 3) := by decide +kernel
theorem dX12_dreads_55 : decode cX12_dreads 55 = .ok (.aload_n 0, 1) := by decide +kernel
theorem dX12_dreads_56 : decode cX12_dreads 56 = .ok (.aload_n 0, 1) := by decide +kernel
theorem dX12_dreads_57 : decode cX12_dreads 57 = .ok (.getfield 16, 3) := by decide +kernel
theorem dX12_dreads_60 : decode cX12_dreads 60 = .ok (.aload_n 0, 1) := by decide +kernel
theorem dX12_dreads_61 : decode cX12_dreads 61 = .ok (.getfield 7, 3) := by decide +kernel
theorem dX12_dreads_64 : decode cX12_dreads 64 = .ok (.invokevirtual 170, 3) := by decide +kernel
theorem dX12_dreads_67 : decode cX12_dreads 67 = .ok (.iload_n 2, 1) := by decide +kernel
theorem dX12_dreads_68 : decode cX12_dreads 68 = .ok (.ireturn, 1) := by decide +kernel
theorem dX12_swaps_0 : decode cX12_swaps 0 = .ok (.iconst 0, 1) := by decide +kernel
theorem dX12_swaps_1 : decode cX12_swaps 1 = .ok (.istore_n 3, 1) := by decide +kernel
theorem dX12_swaps_2 : decode cX12_swaps 2 = .ok (.iload_n 3, 1) := by decide +kernel
theorem dX12_swaps_3 : decode cX12_swaps 3 = .ok (.iconst 1, 1) := by decide +kernel
theorem dX12_swaps_4 : decode cX12_swaps 4 = .ok (.if_icmp .gt 37, 3) := by decide +kernel
theorem dX12_swaps_7 : decode cX12_swaps 7 = .ok (.aload_n 0, 1) := by decide +kernel
theorem dX12_swaps_8 : decode cX12_swaps 8 = .ok (.iload_n 1, 1) := by decide +kernel
theorem dX12_swaps_9 : decode cX12_swaps 9 = .ok (.iload_n 3, 1) := by decide +kernel
theorem dX12_swaps_10 : decode cX12_swaps 10 = .ok (.invokevirtual 63, 3) := by decide +kernel
theorem dX12_swaps_13 : decode cX12_swaps 13 = .ok (.istore 4, 2) := by decide +kernel
theorem dX12_swaps_15 : decode cX12_swaps 15 = .ok (.aload_n 0, 1) := by decide +kernel
theorem dX12_swaps_16 : decode cX12_swaps 16 = .ok (.iload_n 1, 1) := by decide +kernel
theorem dX12_swaps_17 : decode cX12_swaps 17 = .ok (.iload_n 3, 1) := by decide +kernel
theorem dX12_swaps_18 : decode cX12_swaps 18 = .ok (.aload_n 0, 1) := by decide +kernel
theorem dX12_swaps_19 : decode cX12_swaps 19 = .ok (.iload_n 2, 1) := by decide +kernel
theorem dX12_swaps_20 : decode cX12_swaps 20 = .ok (.iload_n 3, 1) := by decide +kernel
theorem dX12_swaps_21 : decode cX12_swaps 21 = .ok (.invokevirtual 63, 3) := by decide +kernel
theorem dX12_swaps_24 : decode cX12_swaps 24 = .ok (.invokevirtual 81, 3) := by decide +kernel
theorem dX12_swaps_27 : decode cX12_swaps 27 = .ok (.aload_n 0, 1) := by decide +kernel
theorem dX12_swaps_28 : decode cX12_swaps 28 = .ok (.iload_n 2, 1) := by decide +kernel
theorem dX12_swaps_29 : decode cX12_swaps 29 = .ok (.iload_n 3, 1) := by decide +kernel
theorem dX12_swaps_30 : decode cX12_swaps 30 = .ok (.iload 4, 2) := by decide +kernel
theorem dX12_swaps_32 : decode cX12_swaps 32 = .ok (.invokevirtual 81, 3) := by decide +kernel
theorem dX12_swaps_35 : decode cX12_swaps 35 = .ok (.iinc 3 1, 3) := by decide +kernel
theorem dX12_swaps_38 : decode cX12_swaps 38 = .ok (.goto (-36), 3) := by decide +kernel
theorem dX12_swaps_41 : decode cX12_swaps 41 = .ok (.return_, 1) := by decide +kernel
theorem dX12_swap_0 : decode cX12_swap 0 = .ok (.iload_n 1, 1) := by decide +kernel
theorem dX12_swap_1 : decode cX12_swap 1 = .ok (.iconst 0, 1) := by decide +kernel
theorem dX12_swap_2 : decode cX12_swap 2 = .ok (.bipush 30, 2) := by decide +kernel
theorem dX12_swap_4 : decode cX12_swap 4 = .ok (.invokestatic 41, 3) := by decide +kernel
theorem dX12_swap_7 : decode cX12_swap 7 = .ok (.ifCond .ne 10, 3) := by decide +kernel
theorem dX12_swap_10 : decode cX12_swap 10 = .ok (.aload_n 0, 1) := by decide +kernel
theorem dX12_swap_11 : decode cX12_swap 11 = .ok (.ldc 53, 2) := by decide +kernel
theorem dX12_swap_13 : decode cX12_swap 13 = .ok (.invokevirtual 54, 3) := by decide +kernel
theorem dX12_swap_16 : decode cX12_swap 16 = .ok (.ireturn, 1) := by decide +kernel
theorem dX12_swap_17 : decode cX12_swap 17 = .ok (.iconst (-1), 1) := by decide +kernel
theorem dX12_swap_18 : decode cX12_swap 18 = .ok (.istore_n 2, 1) := by decide +kernel
theorem dX12_swap_19 : decode cX12_swap 19 = .ok (.aload_n 0, 1) := by decide +kernel
theorem dX12_swap_20 : decode cX12_swap 20 = .ok (.aload_n 0, 1) := by decide +kernel
theorem dX12_swap_21 : decode cX12_swap 21 = .ok (.getfield 7, 3) := by decide +kernel
theorem dX12_swap_24 : decode cX12_swap 24 = .ok (.aload_n 0, 1) := by decide +kernel
theorem dX12_swap_25 : decode cX12_swap 25 = .ok (.getfield 16, 3) := by decide +kernel
theorem dX12_swap_28 : decode cX12_swap 28 = .ok (.invokevirtual 170, 3) := by decide +kernel
theorem dX12_swap_31 : decode cX12_swap 31 = .ok (.aload_n 0, 1) := by decide +kernel
theorem dX12_swap_32 : decode cX12_swap 32 = .ok (.iload_n 1, 1) := by decide +kernel
theorem dX12_swap_33 : decode cX12_swap 33 = .ok (.invokevirtual 213, 3) := by decide +kernel
theorem dX12_swap_36 : decode cX12_swap 36 = .ok (.istore_n 3, 1) := by decide +kernel
theorem dX12_swap_37 : decode cX12_swap 37 = .ok (.iconst 0, 1) := by decide +kernel
theorem dX12_swap_38 : decode cX12_swap 38 = .ok (.istore 4, 2) := by decide +kernel
theorem dX12_swap_40 : decode cX12_swap 40 = .ok (.iload 4, 2) := by decide +kernel
theorem dX12_swap_42 : decode cX12_swap 42 = .ok (.aload_n 0, 1) := by decide +kernel
theorem dX12_swap_43 : decode cX12_swap 43 = .ok (.getfield 7, 3) := by decide +kernel
theorem dX12_swap_46 : decode cX12_swap 46 = .ok (.iconst 3, 1) := by decide +kernel
theorem dX12_swap_47 : decode cX12_swap 47 = .ok (.iaload, 1) := by decide +kernel
theorem dX12_swap_48 : decode cX12_swap 48 = .ok (.if_icmp .ge 79, 3) := by decide +kernel
theorem dX12_swap_51 : decode cX12_swap 51 = .ok (.iload 4, 2) := by decide +kernel
theorem dX12_swap_53 : decode cX12_swap 53 = .ok (.iconst 1, 1) := by decide +kernel
theorem dX12_swap_54 : decode cX12_swap 54 = .ok (.iadd, 1) := by decide +kernel
theorem dX12_swap_55 : decode cX12_swap 55 = .ok (.istore 5, 2) := by decide +kernel
theorem dX12_swap_57 : decode cX12_swap 57 = .ok (.iload 5, 2) := by decide +kernel
theorem dX12_swap_59 : decode cX12_swap 59 = .ok (.aload_n 0, 1) := by decide +kernel
theorem dX12_swap_60 : decode cX12_swap 60 = .ok (.getfield 7, 3) := by decide +kernel
theorem dX12_swap_63 : decode cX12_swap 63 = .ok (.iconst 3, 1) := by decide +kernel
theorem dX12_swap_64 : decode cX12_swap 64 = .ok (.iaload, 1) := by decide +kernel
theorem dX12_swap_65 : decode cX12_swap 65 = .ok (.if_icmp .ge 56, 3) := by decide +kernel
theorem dX12_swap_68 : decode cX12_swap 68 = .ok (.aload_n 0, 1) := by decide +kernel
theorem dX12_swap_69 : decode cX12_swap 69 = .ok (.iload 4, 2) := by decide +kernel
theorem dX12_swap_71 : decode cX12_swap 71 = .ok (.iload 5, 2) := by decide +kernel
theorem dX12_swap_73 : decode cX12_swap 73 = .ok (.invokevirtual 219, 3) := by decide +kernel
theorem dX12_swap_76 : decode cX12_swap 76 = .ok (.aload_n 0, 1) := by decide +kernel
theorem dX12_swap_77 : decode cX12_swap 77 = .ok (.iload_n 1, 1) := by decide +kernel
theorem dX12_swap_78 : decode cX12_swap 78 = .ok (.invokevirtual 213, 3) := by decide +kernel
theorem dX12_swap_81 : decode cX12_swap 81 = .ok (.istore 6, 2) := by decide +kernel
theorem dX12_swap_83 : decode cX12_swap 83 = .ok (.iload 6, 2) := by decide +kernel
theorem dX12_swap_85 : decode cX12_swap 85 = .ok (.iload_n 3, 1) := by decide +kernel
theorem dX12_swap_86 : decode cX12_swap 86 = .ok (.if_icmp .le 14, 3) := by decide +kernel
theorem dX12_swap_89 : decode cX12_swap 89 = .ok (.bipush 10, 2) := by decide +kernel
theorem dX12_swap_91 : decode cX12_swap 91 = .ok (.iload 4, 2) := by decide +kernel
theorem dX12_swap_93 : decode cX12_swap 93 = .ok (.imul, 1) := by decide +kernel
theorem dX12_swap_94 : decode cX12_swap 94 = .ok (.iload 5, 2) := by decide +kernel
theorem dX12_swap_96 : decode cX12_swap 96 = .ok (.iadd, 1) := by decide +kernel
theorem dX12_swap_97 : decode cX12_swap 97 = .ok (.goto 4, 3) := by decide +kernel
theorem dX12_swap_100 : decode cX12_swap 100 = .ok (.iload_n 2, 1) := by decide +kernel
theorem dX12_swap_101 : decode cX12_swap 101 = .ok (.istore_n 2, 1) := by decide +kernel
theorem dX12_swap_102 : decode cX12_swap 102 = .ok (.iload 6, 2) := by decide +kernel
theorem dX12_swap_104 : decode cX12_swap 104 = .ok (.iload_n 3, 1) := by decide +kernel
theorem dX12_swap_105 : decode cX12_swap 105 = .ok (.if_icmp .le 8, 3) := by decide +kernel
theorem dX12_swap_108 : decode cX12_swap 108 = .ok (.iload 6, 2) := by decide +kernel
theorem dX12_swap_110 : decode cX12_swap 110 = .ok (.goto 4, 3) := by decide +kernel
theorem dX12_swap_113 : decode cX12_swap 113 = .ok (.iload_n 3, 1) := by decide +kernel
theorem dX12_swap_114 : decode cX12_swap 114 = .ok (.istore_n 3, 1) := by decide +kernel
theorem dX12_swap_115 : decode cX12_swap 115 = .ok (.iinc 5 1, 3) := by decide +kernel
theorem dX12_swap_118 : decode cX12_swap 118 = .ok (.goto (-61), 3) := by decide +kernel
theorem dX12_swap_121 : decode cX12_swap 121 = .ok (.iinc 4 1, 3) := by decide +kernel
theorem dX12_swap_124 : decode cX12_swap 124 = .ok (.goto (-84), 3) := by decide +kernel
theorem dX12_swap_127 : decode cX12_swap 127 = .ok (.iload_n 2, 1) := by decide +kernel
theorem dX12_swap_128 : decode cX12_swap 128 = .ok (.ireturn, 1) := by decide +kernel
theorem dX12_divisor_0 : decode cX12_divisor 0 = .ok (.iload_n 0, 1) := by decide +kernel
theorem dX12_divisor_1 : decode cX12_divisor 1 = .ok (.istore_n 2, 1) := by decide +kernel
theorem dX12_divisor_2 : decode cX12_divisor 2 = .ok (.iload_n 1, 1) := by decide +kernel
theorem dX12_divisor_3 : decode cX12_divisor 3 = .ok (.istore_n 3, 1) := by decide +kernel
theorem dX12_divisor_4 : decode cX12_divisor 4 = .ok (.iload_n 3, 1) := by decide +kernel
theorem dX12_divisor_5 : decode cX12_divisor 5 = .ok (.ifCond .eq 16, 3) := by decide +kernel
theorem dX12_divisor_8 : decode cX12_divisor 8 = .ok (.iload_n 2, 1) := by decide +kernel
theorem dX12_divisor_9 : decode cX12_divisor 9 = .ok (.iload_n 3, 1) := by decide +kernel
theorem dX12_divisor_10 : decode cX12_divisor 10 = .ok (.irem, 1) := by decide +kernel
theorem dX12_divisor_11 : decode cX12_divisor 11 = .ok (.istore 4, 2) := by decide +kernel
theorem dX12_divisor_13 : decode cX12_divisor 13 = .ok (.iload_n 3, 1) := by decide +kernel
theorem dX12_divisor_14 : decode cX12_divisor 14 = .ok (.istore_n 2, 1) := by decide +kernel
theorem dX12_divisor_15 : decode cX12_divisor 15 = .ok (.iload 4, 2) := by decide +kernel
theorem dX12_divisor_17 : decode cX12_divisor 17 = .ok (.istore_n 3, 1) := by decide +kernel
theorem dX12_divisor_18 : decode cX12_divisor 18 = .ok (.goto (-14), 3) := by decide +kernel
theorem dX12_divisor_21 : decode cX12_divisor 21 = .ok (.iload_n 2, 1) := by decide +kernel
theorem dX12_divisor_22 : decode cX12_divisor 22 = .ok (.ireturn, 1) := by decide +kernel
theorem dX12_odds_0 : decode cX12_odds 0 = .ok (.aload_n 0, 1) := by decide +kernel
theorem dX12_odds_1 : decode cX12_odds 1 = .ok (.iload_n 1, 1) := by decide +kernel
theorem dX12_odds_2 : decode cX12_odds 2 = .ok (.invokevirtual 84, 3) := by decide +kernel
theorem dX12_odds_5 : decode cX12_odds 5 = .ok (.ifCond .eq 30, 3) := by decide +kernel
theorem dX12_odds_8 : decode cX12_odds 8 = .ok (.iload_n 2, 1) := by decide +kernel
theorem dX12_odds_9 : decode cX12_odds 9 = .ok (.invokestatic 45, 3) := by decide +kernel
theorem dX12_odds_12 : decode cX12_odds 12 = .ok (.ifCond .eq 23, 3) := by decide +kernel
theorem dX12_odds_15 : decode cX12_odds 15 = .ok (.iload_n 3, 1) := by decide +kernel
theorem dX12_odds_16 : decode cX12_odds 16 = .ok (.iconst 0, 1) := by decide +kernel
theorem dX12_odds_17 : decode cX12_odds 17 = .ok (.bipush 60, 2) := by decide +kernel
theorem dX12_odds_19 : decode cX12_odds 19 = .ok (.invokestatic 41, 3) := by decide +kernel
theorem dX12_odds_22 : decode cX12_odds 22 = .ok (.ifCond .eq 13, 3) := by decide +kernel
theorem dX12_odds_25 : decode cX12_odds 25 = .ok (.iload 4, 2) := by decide +kernel
theorem dX12_odds_27 : decode cX12_odds 27 = .ok (.iconst 0, 1) := by decide +kernel
theorem dX12_odds_28 : decode cX12_odds 28 = .ok (.iconst 1, 1) := by decide +kernel
theorem dX12_odds_29 : decode cX12_odds 29 = .ok (.invokestatic 41, 3) := by decide +kernel
theorem dX12_odds_32 : decode cX12_odds 32 = .ok (.ifCond .ne 10, 3) := by decide +kernel
theorem dX12_odds_35 : decode cX12_odds 35 = .ok (.aload_n 0, 1) := by decide +kernel
theorem dX12_odds_36 : decode cX12_odds 36 = .ok (.ldc 53, 2) := by decide +kernel
theorem dX12_odds_38 : decode cX12_odds 38 = .ok (.invokevirtual 54, 3) := by decide +kernel
theorem dX12_odds_41 : decode cX12_odds 41 = .ok (.ireturn, 1) := by decide +kernel
theorem dX12_odds_42 : decode cX12_odds 42 = .ok (.aload_n 0, 1) := by decide +kernel
theorem dX12_odds_43 : decode cX12_odds 43 = .ok (.getfield 7, 3) := by decide +kernel
theorem dX12_odds_46 : decode cX12_odds 46 = .ok (.iconst 2, 1) := by decide +kernel
theorem dX12_odds_47 : decode cX12_odds 47 = .ok (.iaload, 1) := by decide +kernel
theorem dX12_odds_48 : decode cX12_odds 48 = .ok (.istore 5, 2) := by decide +kernel
theorem dX12_odds_50 : decode cX12_odds 50 = .ok (.iload 5, 2) := by decide +kernel
theorem dX12_odds_52 : decode cX12_odds 52 = .ok (.ifCond .ne 10, 3) := by decide +kernel
theorem dX12_odds_55 : decode cX12_odds 55 = .ok (.aload_n 0, 1) := by decide +kernel
theorem dX12_odds_56 : decode cX12_odds 56 = .ok (.ldc 202, 2) := by decide +kernel
theorem dX12_odds_58 : decode cX12_odds 58 = .ok (.invokevirtual 54, 3) := by decide +kernel
theorem dX12_odds_61 : decode cX12_odds 61 = .ok (.ireturn, 1) := by decide +kernel
theorem dX12_odds_62 : decode cX12_odds 62 = .ok (.iconst 0, 1) := by decide +kernel
theorem dX12_odds_63 : decode cX12_odds 63 = .ok (.istore 6, 2) := by decide +kernel
theorem dX12_odds_65 : decode cX12_odds 65 = .ok (.aload_n 0, 1) := by decide +kernel
theorem dX12_odds_66 : decode cX12_odds 66 = .ok (.aload_n 0, 1) := by decide +kernel
theorem dX12_odds_67 : decode cX12_odds 67 = .ok (.getfield 7, 3) := by decide +kernel
theorem dX12_odds_70 : decode cX12_odds 70 = .ok (.aload_n 0, 1) := by decide +kernel
theorem dX12_odds_71 : decode cX12_odds 71 = .ok (.getfield 16, 3) := by decide +kernel
theorem dX12_odds_74 : decode cX12_odds 74 = .ok (.invokevirtual 170, 3) := by decide +kernel
theorem dX12_odds_77 : decode cX12_odds 77 = .ok (.iconst 0, 1) := by decide +kernel
theorem dX12_odds_78 : decode cX12_odds 78 = .ok (.istore 7, 2) := by decide +kernel
theorem dX12_odds_80 : decode cX12_odds 80 = .ok (.iload 7, 2) := by decide +kernel
theorem dX12_odds_82 : decode cX12_odds 82 = .ok (.iload 5, 2) := by decide +kernel
theorem dX12_odds_84 : decode cX12_odds 84 = .ok (.if_icmp .ge 57, 3) := by decide +kernel
theorem dX12_odds_87 : decode cX12_odds 87 = .ok (.aload_n 0, 1) := by decide +kernel
theorem dX12_odds_88 : decode cX12_odds 88 = .ok (.iload_n 1, 1) := by decide +kernel
theorem dX12_odds_89 : decode cX12_odds 89 = .ok (.iconst 1, 1) := by decide +kernel
theorem dX12_odds_90 : decode cX12_odds 90 = .ok (.iconst (-1), 1) := by decide +kernel
theorem dX12_odds_91 : decode cX12_odds 91 = .ok (.invokevirtual 90, 3) := by decide +kernel
theorem dX12_odds_94 : decode cX12_odds 94 = .ok (.aload_n 0, 1) := by decide +kernel
theorem dX12_odds_95 : decode cX12_odds 95 = .ok (.iload_n 1, 1) := by decide +kernel
theorem dX12_odds_96 : decode cX12_odds 96 = .ok (.iconst 0, 1) := by decide +kernel
theorem dX12_odds_97 : decode cX12_odds 97 = .ok (.iload 7, 2) := by decide +kernel
theorem dX12_odds_99 : decode cX12_odds 99 = .ok (.invokevirtual 90, 3) := by decide +kernel
theorem dX12_odds_102 : decode cX12_odds 102 = .ok (.aload_n 0, 1) := by decide +kernel
theorem dX12_odds_103 : decode cX12_odds 103 = .ok (.iload_n 3, 1) := by decide +kernel
theorem dX12_odds_104 : decode cX12_odds 104 = .ok (.invokevirtual 195, 3) := by decide +kernel
theorem dX12_odds_107 : decode cX12_odds 107 = .ok (.pop, 1) := by decide +kernel
theorem dX12_odds_108 : decode cX12_odds 108 = .ok (.iload 6, 2) := by decide +kernel
theorem dX12_odds_110 : decode cX12_odds 110 = .ok (.aload_n 0, 1) := by decide +kernel
theorem dX12_odds_111 : decode cX12_odds 111 = .ok (.iload_n 1, 1) := by decide +kernel
theorem dX12_odds_112 : decode cX12_odds 112 = .ok (.iconst 3, 1) := by decide +kernel
theorem dX12_odds_113 : decode cX12_odds 113 = .ok (.invokevirtual 63, 3) := by decide +kernel
theorem dX12_odds_116 : decode cX12_odds 116 = .ok (.iload_n 2, 1) := by decide +kernel
theorem dX12_odds_117 : decode cX12_odds 117 = .ok (.ishr, 1) := by decide +kernel
theorem dX12_odds_118 : decode cX12_odds 118 = .ok (.iconst 1, 1) := by decide +kernel
theorem dX12_odds_119 : decode cX12_odds 119 = .ok (.iand, 1) := by decide +kernel
theorem dX12_odds_120 : decode cX12_odds 120 = .ok (.iadd, 1) := by decide +kernel
theorem dX12_odds_121 : decode cX12_odds 121 = .ok (.istore 6, 2) := by decide +kernel
theorem dX12_odds_123 : decode cX12_odds 123 = .ok (.aload_n 0, 1) := by decide +kernel
theorem dX12_odds_124 : decode cX12_odds 124 = .ok (.aload_n 0, 1) := by decide +kernel
theorem dX12_odds_125 : decode cX12_odds 125 = .ok (.getfield 16, 3) := by decide +kernel
theorem dX12_odds_128 : decode cX12_odds 128 = .ok (.aload_n 0, 1) := by decide +kernel
theorem dX12_odds_129 : decode cX12_odds 129 = .ok (.getfield 7, 3) := by decide +kernel
theorem dX12_odds_132 : decode cX12_odds 132 = .ok (.invokevirtual 170, 3) := by decide +kernel
theorem dX12_odds_135 : decode cX12_odds 135 = .ok (.iinc 7 1, 3) := by decide +kernel
theorem dX12_odds_138 : decode cX12_odds 138 = .ok (.goto (-58), 3) := by decide +kernel
theorem dX12_odds_141 : decode cX12_odds 141 = .ok (.iload 6, 2) := by decide +kernel
theorem dX12_odds_143 : decode cX12_odds 143 = .ok (.iload 5, 2) := by decide +kernel
theorem dX12_odds_145 : decode cX12_odds 145 = .ok (.invokestatic 222, 3) := by decide +kernel
theorem dX12_odds_148 : decode cX12_odds 148 = .ok (.istore 7, 2) := by decide +kernel
theorem dX12_odds_150 : decode cX12_odds 150 = .ok (.iload 4, 2) := by decide +kernel
theorem dX12_odds_152 : decode cX12_odds 152 = .ok (.ifCond .ne 11, 3) := by decide +kernel
theorem dX12_odds_155 : decode cX12_odds 155 = .ok (.iload 6, 2) := by decide +kernel
theorem dX12_odds_157 : decode cX12_odds 157 = .ok (.iload 7, 2) := by decide +kernel
theorem dX12_odds_159 : decode cX12_odds 159 = .ok (.idiv, 1) := by decide +kernel
theorem dX12_odds_160 : decode cX12_odds 160 = .ok (.goto 8, 3) := by decide +kernel
theorem dX12_odds_163 : decode cX12_odds 163 = .ok (.iload 5, 2) := by decide +kernel
theorem dX12_odds_165 : decode cX12_odds 165 = .ok (.iload 7, 2) := by decide +kernel
theorem dX12_odds_167 : decode cX12_odds 167 = .ok (.idiv, 1) := by decide +kernel
theorem dX12_odds_168 : decode cX12_odds 168 = .ok (.ireturn, 1) := by decide +kernel
theorem dX12_seed_0 : decode cX12_seed 0 = .ok (.aload_n 0, 1) := by decide +kernel
theorem dX12_seed_1 : decode cX12_seed 1 = .ok (.getfield 7, 3) := by decide +kernel
theorem dX12_seed_4 : decode cX12_seed 4 = .ok (.iconst 1, 1) := by decide +kernel
theorem dX12_seed_5 : decode cX12_seed 5 = .ok (.iaload, 1) := by decide +kernel
theorem dX12_seed_6 : decode cX12_seed 6 = .ok (.istore_n 2, 1) := by decide +kernel
theorem dX12_seed_7 : decode cX12_seed 7 = .ok (.aload_n 0, 1) := by decide +kernel
theorem dX12_seed_8 : decode cX12_seed 8 = .ok (.getfield 7, 3) := by decide +kernel
theorem dX12_seed_11 : decode cX12_seed 11 = .ok (.iconst 1, 1) := by decide +kernel
theorem dX12_seed_12 : decode cX12_seed 12 = .ok (.iload_n 1, 1) := by decide +kernel
theorem dX12_seed_13 : decode cX12_seed 13 = .ok (.iastore, 1) := by decide +kernel
theorem dX12_seed_14 : decode cX12_seed 14 = .ok (.iload_n 2, 1) := by decide +kernel
theorem dX12_seed_15 : decode cX12_seed 15 = .ok (.ireturn, 1) := by decide +kernel
theorem dX12_ran_0 : decode cX12_ran 0 = .ok (.aload_n 0, 1) := by decide +kernel
theorem dX12_ran_1 : decode cX12_ran 1 = .ok (.getfield 225, 3) := by decide +kernel
theorem dX12_ran_4 : decode cX12_ran 4 = .ok (.bipush 40, 2) := by decide +kernel
theorem dX12_ran_6 : decode cX12_ran 6 = .ok (.if_icmp .ge 23, 3) := by decide +kernel
theorem dX12_ran_9 : decode cX12_ran 9 = .ok (.aload_n 0, 1) := by decide +kernel
theorem dX12_ran_10 : decode cX12_ran 10 = .ok (.getfield 37, 3) := by decide +kernel
theorem dX12_ran_13 : decode cX12_ran 13 = .ok (.aload_n 0, 1) := by decide +kernel
theorem dX12_ran_14 : decode cX12_ran 14 = .ok (.getfield 225, 3) := by decide +kernel
theorem dX12_ran_17 : decode cX12_ran 17 = .ok (.iload_n 1, 1) := by decide +kernel
theorem dX12_ran_18 : decode cX12_ran 18 = .ok (.iastore, 1) := by decide +kernel
theorem dX12_ran_19 : decode cX12_ran 19 = .ok (.aload_n 0, 1) := by decide +kernel
theorem dX12_ran_20 : decode cX12_ran 20 = .ok (.dup, 1) := by decide +kernel
theorem dX12_ran_21 : decode cX12_ran 21 = .ok (.getfield 225, 3) := by decide +kernel
theorem dX12_ran_24 : decode cX12_ran 24 = .ok (.iconst 1, 1) := by decide +kernel
theorem dX12_ran_25 : decode cX12_ran 25 = .ok (.iadd, 1) := by decide +kernel
theorem dX12_ran_26 : decode cX12_ran 26 = .ok (.putfield 225, 3) := by decide +kernel
theorem dX12_ran_29 : decode cX12_ran 29 = .ok (.return_, 1) := by decide +kernel
theorem dX12_seesIn_0 : decode cX12_seesIn 0 = .ok (.iload_n 1, 1) := by decide +kernel
theorem dX12_seesIn_1 : decode cX12_seesIn 1 = .ok (.ifCond .ne 16, 3) := by decide +kernel
theorem dX12_seesIn_4 : decode cX12_seesIn 4 = .ok (.aload_n 0, 1) := by decide +kernel
theorem dX12_seesIn_5 : decode cX12_seesIn 5 = .ok (.bipush 10, 2) := by decide +kernel
theorem dX12_seesIn_7 : decode cX12_seesIn 7 = .ok (.invokevirtual 228, 3) := by decide +kernel
theorem dX12_seesIn_10 : decode cX12_seesIn 10 = .ok (.iload_n 2, 1) := by decide +kernel
theorem dX12_seesIn_11 : decode cX12_seesIn 11 = .ok (.aload_n 0, 1) := by decide +kernel
theorem dX12_seesIn_12 : decode cX12_seesIn 12 = .ok (.getfield 231, 3) := by decide +kernel
theorem dX12_seesIn_15 : decode cX12_seesIn 15 = .ok (.iadd, 1) := by decide +kernel
theorem dX12_seesIn_16 : decode cX12_seesIn 16 = .ok (.ireturn, 1) := by decide +kernel
theorem dX12_seesIn_17 : decode cX12_seesIn 17 = .ok (.iload_n 1, 1) := by decide +kernel
theorem dX12_seesIn_18 : decode cX12_seesIn 18 = .ok (.iconst 1, 1) := by decide +kernel
theorem dX12_seesIn_19 : decode cX12_seesIn 19 = .ok (.if_icmp .ne 18, 3) := by decide +kernel
theorem dX12_seesIn_22 : decode cX12_seesIn 22 = .ok (.aload_n 0, 1) := by decide +kernel
theorem dX12_seesIn_23 : decode cX12_seesIn 23 = .ok (.bipush 20, 2) := by decide +kernel
theorem dX12_seesIn_25 : decode cX12_seesIn 25 = .ok (.invokevirtual 228, 3) := by decide +kernel
theorem dX12_seesIn_28 : decode cX12_seesIn 28 = .ok (.aload_n 0, 1) := by decide +kernel
theorem dX12_seesIn_29 : decode cX12_seesIn 29 = .ok (.iconst 0, 1) := by decide +kernel
theorem dX12_seesIn_30 : decode cX12_seesIn 30 = .ok (.iload_n 2, 1) := by decide +kernel
theorem dX12_seesIn_31 : decode cX12_seesIn 31 = .ok (.invokevirtual 234, 3) := by decide +kernel
theorem dX12_seesIn_34 : decode cX12_seesIn 34 = .ok (.iconst 3, 1) := by decide +kernel
theorem dX12_seesIn_35 : decode cX12_seesIn 35 = .ok (.imul, 1) := by decide +kernel
theorem dX12_seesIn_36 : decode cX12_seesIn 36 = .ok (.ireturn, 1) := by decide +kernel
theorem dX12_seesIn_37 : decode cX12_seesIn 37 = .ok (.aload_n 0, 1) := by decide +kernel
theorem dX12_seesIn_38 : decode cX12_seesIn 38 = .ok (.iload_n 1, 1) := by decide +kernel
theorem dX12_seesIn_39 : decode cX12_seesIn 39 = .ok (.invokestatic 93, 3) := by decide +kernel
theorem dX12_seesIn_42 : decode cX12_seesIn 42 = .ok (.iload_n 2, 1) := by decide +kernel
theorem dX12_seesIn_43 : decode cX12_seesIn 43 = .ok (.invokevirtual 234, 3) := by decide +kernel
theorem dX12_seesIn_46 : decode cX12_seesIn 46 = .ok (.ireturn, 1) := by decide +kernel
theorem dX12_blinksIn_0 : decode cX12_blinksIn 0 = .ok (.iload_n 1, 1) := by decide +kernel
theorem dX12_blinksIn_1 : decode cX12_blinksIn 1 = .ok (.ifCond .ne 16, 3) := by decide +kernel
theorem dX12_blinksIn_4 : decode cX12_blinksIn 4 = .ok (.aload_n 0, 1) := by decide +kernel
theorem dX12_blinksIn_5 : decode cX12_blinksIn 5 = .ok (.bipush 12, 2) := by decide +kernel
theorem dX12_blinksIn_7 : decode cX12_blinksIn 7 = .ok (.invokevirtual 228, 3) := by decide +kernel
theorem dX12_blinksIn_10 : decode cX12_blinksIn 10 = .ok (.iload_n 2, 1) := by decide +kernel
theorem dX12_blinksIn_11 : decode cX12_blinksIn 11 = .ok (.aload_n 0, 1) := by decide +kernel
theorem dX12_blinksIn_12 : decode cX12_blinksIn 12 = .ok (.getfield 237, 3) := by decide +kernel
theorem dX12_blinksIn_15 : decode cX12_blinksIn 15 = .ok (.isub, 1) := by decide +kernel
theorem dX12_blinksIn_16 : decode cX12_blinksIn 16 = .ok (.ireturn, 1) := by decide +kernel
theorem dX12_blinksIn_17 : decode cX12_blinksIn 17 = .ok (.iload_n 1, 1) := by decide +kernel
theorem dX12_blinksIn_18 : decode cX12_blinksIn 18 = .ok (.iconst 3, 1) := by decide +kernel
theorem dX12_blinksIn_19 : decode cX12_blinksIn 19 = .ok (.if_icmp .ne 17, 3) := by decide +kernel
theorem dX12_blinksIn_22 : decode cX12_blinksIn 22 = .ok (.aload_n 0, 1) := by decide +kernel
theorem dX12_blinksIn_23 : decode cX12_blinksIn 23 = .ok (.bipush 40, 2) := by decide +kernel
theorem dX12_blinksIn_25 : decode cX12_blinksIn 25 = .ok (.invokevirtual 228, 3) := by decide +kernel
theorem dX12_blinksIn_28 : decode cX12_blinksIn 28 = .ok (.aload_n 0, 1) := by decide +kernel
theorem dX12_blinksIn_29 : decode cX12_blinksIn 29 = .ok (.iconst 0, 1) := by decide +kernel
theorem dX12_blinksIn_30 : decode cX12_blinksIn 30 = .ok (.iload_n 2, 1) := by decide +kernel
theorem dX12_blinksIn_31 : decode cX12_blinksIn 31 = .ok (.invokevirtual 240, 3) := by decide +kernel
theorem dX12_blinksIn_34 : decode cX12_blinksIn 34 = .ok (.ineg, 1) := by decide +kernel
theorem dX12_blinksIn_35 : decode cX12_blinksIn 35 = .ok (.ireturn, 1) := by decide +kernel
theorem dX12_blinksIn_36 : decode cX12_blinksIn 36 = .ok (.iload_n 1, 1) := by decide +kernel
theorem dX12_blinksIn_37 : decode cX12_blinksIn 37 = .ok (.bipush 6, 2) := by decide +kernel
theorem dX12_blinksIn_39 : decode cX12_blinksIn 39 = .ok (.if_icmp .ne 21, 3) := by decide +kernel
theorem dX12_blinksIn_42 : decode cX12_blinksIn 42 = .ok (.aload_n 0, 1) := by decide +kernel
theorem dX12_blinksIn_43 : decode cX12_blinksIn 43 = .ok (.bipush 70, 2) := by decide +kernel
theorem dX12_blinksIn_45 : decode cX12_blinksIn 45 = .ok (.invokevirtual 228, 3) := by decide +kernel
theorem dX12_blinksIn_48 : decode cX12_blinksIn 48 = .ok (.aload_n 0, 1) := by decide +kernel
theorem dX12_blinksIn_49 : decode cX12_blinksIn 49 = .ok (.iconst 3, 1) := by decide +kernel
theorem dX12_blinksIn_50 : decode cX12_blinksIn 50 = .ok (.iload_n 2, 1) := by decide +kernel
theorem dX12_blinksIn_51 : decode cX12_blinksIn 51 = .ok (.invokevirtual 240, 3) := by decide +kernel
theorem dX12_blinksIn_54 : decode cX12_blinksIn 54 = .ok (.aload_n 0, 1) := by decide +kernel
theorem dX12_blinksIn_55 : decode cX12_blinksIn 55 = .ok (.getfield 231, 3) := by decide +kernel
theorem dX12_blinksIn_58 : decode cX12_blinksIn 58 = .ok (.ixor, 1) := by decide +kernel
theorem dX12_blinksIn_59 : decode cX12_blinksIn 59 = .ok (.ireturn, 1) := by decide +kernel
theorem dX12_blinksIn_60 : decode cX12_blinksIn 60 = .ok (.aload_n 0, 1) := by decide +kernel
theorem dX12_blinksIn_61 : decode cX12_blinksIn 61 = .ok (.iload_n 1, 1) := by decide +kernel
theorem dX12_blinksIn_62 : decode cX12_blinksIn 62 = .ok (.invokestatic 93, 3) := by decide +kernel
theorem dX12_blinksIn_65 : decode cX12_blinksIn 65 = .ok (.iload_n 2, 1) := by decide +kernel
theorem dX12_blinksIn_66 : decode cX12_blinksIn 66 = .ok (.invokevirtual 240, 3) := by decide +kernel
theorem dX12_blinksIn_69 : decode cX12_blinksIn 69 = .ok (.ireturn, 1) := by decide +kernel
theorem dX12_looksIn_0 : decode cX12_looksIn 0 = .ok (.iload_n 1, 1) := by decide +kernel
theorem dX12_looksIn_1 : decode cX12_looksIn 1 = .ok (.ifCond .ne 21, 3) := by decide +kernel
theorem dX12_looksIn_4 : decode cX12_looksIn 4 = .ok (.aload_n 0, 1) := by decide +kernel
theorem dX12_looksIn_5 : decode cX12_looksIn 5 = .ok (.bipush 11, 2) := by decide +kernel
theorem dX12_looksIn_7 : decode cX12_looksIn 7 = .ok (.invokevirtual 228, 3) := by decide +kernel
theorem dX12_looksIn_10 : decode cX12_looksIn 10 = .ok (.aload_n 0, 1) := by decide +kernel
theorem dX12_looksIn_11 : decode cX12_looksIn 11 = .ok (.aload_n 0, 1) := by decide +kernel
theorem dX12_looksIn_12 : decode cX12_looksIn 12 = .ok (.getfield 243, 3) := by decide +kernel
theorem dX12_looksIn_15 : decode cX12_looksIn 15 = .ok (.iload_n 2, 1) := by decide +kernel
theorem dX12_looksIn_16 : decode cX12_looksIn 16 = .ok (.invokevirtual 234, 3) := by decide +kernel
theorem dX12_looksIn_19 : decode cX12_looksIn 19 = .ok (.iconst 2, 1) := by decide +kernel
theorem dX12_looksIn_20 : decode cX12_looksIn 20 = .ok (.imul, 1) := by decide +kernel
theorem dX12_looksIn_21 : decode cX12_looksIn 21 = .ok (.ireturn, 1) := by decide +kernel
theorem dX12_looksIn_22 : decode cX12_looksIn 22 = .ok (.iload_n 1, 1) := by decide +kernel
theorem dX12_looksIn_23 : decode cX12_looksIn 23 = .ok (.iconst 2, 1) := by decide +kernel
theorem dX12_looksIn_24 : decode cX12_looksIn 24 = .ok (.if_icmp .ne 28, 3) := by decide +kernel
theorem dX12_looksIn_27 : decode cX12_looksIn 27 = .ok (.aload_n 0, 1) := by decide +kernel
theorem dX12_looksIn_28 : decode cX12_looksIn 28 = .ok (.bipush 30, 2) := by decide +kernel
theorem dX12_looksIn_30 : decode cX12_looksIn 30 = .ok (.invokevirtual 228, 3) := by decide +kernel
theorem dX12_looksIn_33 : decode cX12_looksIn 33 = .ok (.aload_n 0, 1) := by decide +kernel
theorem dX12_looksIn_34 : decode cX12_looksIn 34 = .ok (.iconst 0, 1) := by decide +kernel
theorem dX12_looksIn_35 : decode cX12_looksIn 35 = .ok (.iload_n 2, 1) := by decide +kernel
theorem dX12_looksIn_36 : decode cX12_looksIn 36 = .ok (.invokevirtual 246, 3) := by decide +kernel
theorem dX12_looksIn_39 : decode cX12_looksIn 39 = .ok (.istore_n 3, 1) := by decide +kernel
theorem dX12_looksIn_40 : decode cX12_looksIn 40 = .ok (.iload_n 3, 1) := by decide +kernel
theorem dX12_looksIn_41 : decode cX12_looksIn 41 = .ok (.aload_n 0, 1) := by decide +kernel
theorem dX12_looksIn_42 : decode cX12_looksIn 42 = .ok (.aload_n 0, 1) := by decide +kernel
theorem dX12_looksIn_43 : decode cX12_looksIn 43 = .ok (.getfield 243, 3) := by decide +kernel
theorem dX12_looksIn_46 : decode cX12_looksIn 46 = .ok (.iconst 1, 1) := by decide +kernel
theorem dX12_looksIn_47 : decode cX12_looksIn 47 = .ok (.invokevirtual 240, 3) := by decide +kernel
theorem dX12_looksIn_50 : decode cX12_looksIn 50 = .ok (.isub, 1) := by decide +kernel
theorem dX12_looksIn_51 : decode cX12_looksIn 51 = .ok (.ireturn, 1) := by decide +kernel
theorem dX12_looksIn_52 : decode cX12_looksIn 52 = .ok (.iload_n 1, 1) := by decide +kernel
theorem dX12_looksIn_53 : decode cX12_looksIn 53 = .ok (.iconst 5, 1) := by decide +kernel
theorem dX12_looksIn_54 : decode cX12_looksIn 54 = .ok (.if_icmp .ne 18, 3) := by decide +kernel
theorem dX12_looksIn_57 : decode cX12_looksIn 57 = .ok (.aload_n 0, 1) := by decide +kernel
theorem dX12_looksIn_58 : decode cX12_looksIn 58 = .ok (.bipush 60, 2) := by decide +kernel
theorem dX12_looksIn_60 : decode cX12_looksIn 60 = .ok (.invokevirtual 228, 3) := by decide +kernel
theorem dX12_looksIn_63 : decode cX12_looksIn 63 = .ok (.aload_n 0, 1) := by decide +kernel
theorem dX12_looksIn_64 : decode cX12_looksIn 64 = .ok (.iconst 2, 1) := by decide +kernel
theorem dX12_looksIn_65 : decode cX12_looksIn 65 = .ok (.iload_n 2, 1) := by decide +kernel
theorem dX12_looksIn_66 : decode cX12_looksIn 66 = .ok (.iconst 1, 1) := by decide +kernel
theorem dX12_looksIn_67 : decode cX12_looksIn 67 = .ok (.iadd, 1) := by decide +kernel
theorem dX12_looksIn_68 : decode cX12_looksIn 68 = .ok (.invokevirtual 246, 3) := by decide +kernel
theorem dX12_looksIn_71 : decode cX12_looksIn 71 = .ok (.ireturn, 1) := by decide +kernel
theorem dX12_looksIn_72 : decode cX12_looksIn 72 = .ok (.aload_n 0, 1) := by decide +kernel
theorem dX12_looksIn_73 : decode cX12_looksIn 73 = .ok (.iload_n 1, 1) := by decide +kernel
theorem dX12_looksIn_74 : decode cX12_looksIn 74 = .ok (.invokestatic 93, 3) := by decide +kernel
theorem dX12_looksIn_77 : decode cX12_looksIn 77 = .ok (.iload_n 2, 1) := by decide +kernel
theorem dX12_looksIn_78 : decode cX12_looksIn 78 = .ok (.invokevirtual 246, 3) := by decide +kernel
theorem dX12_looksIn_81 : decode cX12_looksIn 81 = .ok (.ireturn, 1) := by decide +kernel
theorem dX12_tellsIn_0 : decode cX12_tellsIn 0 = .ok (.iload_n 1, 1) := by decide +kernel
theorem dX12_tellsIn_1 : decode cX12_tellsIn 1 = .ok (.ifCond .ne 31, 3) := by decide +kernel
theorem dX12_tellsIn_4 : decode cX12_tellsIn 4 = .ok (.aload_n 0, 1) := by decide +kernel
theorem dX12_tellsIn_5 : decode cX12_tellsIn 5 = .ok (.bipush 13, 2) := by decide +kernel
theorem dX12_tellsIn_7 : decode cX12_tellsIn 7 = .ok (.invokevirtual 228, 3) := by decide +kernel
theorem dX12_tellsIn_10 : decode cX12_tellsIn 10 = .ok (.aload_n 0, 1) := by decide +kernel
theorem dX12_tellsIn_11 : decode cX12_tellsIn 11 = .ok (.aload_n 0, 1) := by decide +kernel
theorem dX12_tellsIn_12 : decode cX12_tellsIn 12 = .ok (.getfield 243, 3) := by decide +kernel
theorem dX12_tellsIn_15 : decode cX12_tellsIn 15 = .ok (.iload_n 2, 1) := by decide +kernel
theorem dX12_tellsIn_16 : decode cX12_tellsIn 16 = .ok (.invokevirtual 246, 3) := by decide +kernel
theorem dX12_tellsIn_19 : decode cX12_tellsIn 19 = .ok (.istore_n 3, 1) := by decide +kernel
theorem dX12_tellsIn_20 : decode cX12_tellsIn 20 = .ok (.iload_n 3, 1) := by decide +kernel
theorem dX12_tellsIn_21 : decode cX12_tellsIn 21 = .ok (.aload_n 0, 1) := by decide +kernel
theorem dX12_tellsIn_22 : decode cX12_tellsIn 22 = .ok (.aload_n 0, 1) := by decide +kernel
theorem dX12_tellsIn_23 : decode cX12_tellsIn 23 = .ok (.getfield 243, 3) := by decide +kernel
theorem dX12_tellsIn_26 : decode cX12_tellsIn 26 = .ok (.iload_n 2, 1) := by decide +kernel
theorem dX12_tellsIn_27 : decode cX12_tellsIn 27 = .ok (.invokevirtual 240, 3) := by decide +kernel
theorem dX12_tellsIn_30 : decode cX12_tellsIn 30 = .ok (.ixor, 1) := by decide +kernel
theorem dX12_tellsIn_31 : decode cX12_tellsIn 31 = .ok (.ireturn, 1) := by decide +kernel
theorem dX12_tellsIn_32 : decode cX12_tellsIn 32 = .ok (.iload_n 1, 1) := by decide +kernel
theorem dX12_tellsIn_33 : decode cX12_tellsIn 33 = .ok (.iconst 4, 1) := by decide +kernel
theorem dX12_tellsIn_34 : decode cX12_tellsIn 34 = .ok (.if_icmp .ne 28, 3) := by decide +kernel
theorem dX12_tellsIn_37 : decode cX12_tellsIn 37 = .ok (.aload_n 0, 1) := by decide +kernel
theorem dX12_tellsIn_38 : decode cX12_tellsIn 38 = .ok (.bipush 50, 2) := by decide +kernel
theorem dX12_tellsIn_40 : decode cX12_tellsIn 40 = .ok (.invokevirtual 228, 3) := by decide +kernel
theorem dX12_tellsIn_43 : decode cX12_tellsIn 43 = .ok (.aload_n 0, 1) := by decide +kernel
theorem dX12_tellsIn_44 : decode cX12_tellsIn 44 = .ok (.iconst 1, 1) := by decide +kernel
theorem dX12_tellsIn_45 : decode cX12_tellsIn 45 = .ok (.iload_n 2, 1) := by decide +kernel
theorem dX12_tellsIn_46 : decode cX12_tellsIn 46 = .ok (.invokevirtual 249, 3) := by decide +kernel
theorem dX12_tellsIn_49 : decode cX12_tellsIn 49 = .ok (.istore_n 3, 1) := by decide +kernel
theorem dX12_tellsIn_50 : decode cX12_tellsIn 50 = .ok (.iload_n 3, 1) := by decide +kernel
theorem dX12_tellsIn_51 : decode cX12_tellsIn 51 = .ok (.aload_n 0, 1) := by decide +kernel
theorem dX12_tellsIn_52 : decode cX12_tellsIn 52 = .ok (.aload_n 0, 1) := by decide +kernel
theorem dX12_tellsIn_53 : decode cX12_tellsIn 53 = .ok (.getfield 243, 3) := by decide +kernel
theorem dX12_tellsIn_56 : decode cX12_tellsIn 56 = .ok (.iconst 2, 1) := by decide +kernel
theorem dX12_tellsIn_57 : decode cX12_tellsIn 57 = .ok (.invokevirtual 234, 3) := by decide +kernel
theorem dX12_tellsIn_60 : decode cX12_tellsIn 60 = .ok (.isub, 1) := by decide +kernel
theorem dX12_tellsIn_61 : decode cX12_tellsIn 61 = .ok (.ireturn, 1) := by decide +kernel
theorem dX12_tellsIn_62 : decode cX12_tellsIn 62 = .ok (.iload_n 1, 1) := by decide +kernel
theorem dX12_tellsIn_63 : decode cX12_tellsIn 63 = .ok (.bipush 6, 2) := by decide +kernel
theorem dX12_tellsIn_65 : decode cX12_tellsIn 65 = .ok (.if_icmp .ne 28, 3) := by decide +kernel
theorem dX12_tellsIn_68 : decode cX12_tellsIn 68 = .ok (.aload_n 0, 1) := by decide +kernel
theorem dX12_tellsIn_69 : decode cX12_tellsIn 69 = .ok (.bipush 71, 2) := by decide +kernel
theorem dX12_tellsIn_71 : decode cX12_tellsIn 71 = .ok (.invokevirtual 228, 3) := by decide +kernel
theorem dX12_tellsIn_74 : decode cX12_tellsIn 74 = .ok (.aload_n 0, 1) := by decide +kernel
theorem dX12_tellsIn_75 : decode cX12_tellsIn 75 = .ok (.aload_n 0, 1) := by decide +kernel
theorem dX12_tellsIn_76 : decode cX12_tellsIn 76 = .ok (.getfield 243, 3) := by decide +kernel
theorem dX12_tellsIn_79 : decode cX12_tellsIn 79 = .ok (.iload_n 2, 1) := by decide +kernel
theorem dX12_tellsIn_80 : decode cX12_tellsIn 80 = .ok (.invokevirtual 246, 3) := by decide +kernel
theorem dX12_tellsIn_83 : decode cX12_tellsIn 83 = .ok (.istore_n 3, 1) := by decide +kernel
theorem dX12_tellsIn_84 : decode cX12_tellsIn 84 = .ok (.iload_n 3, 1) := by decide +kernel
theorem dX12_tellsIn_85 : decode cX12_tellsIn 85 = .ok (.aload_n 0, 1) := by decide +kernel
theorem dX12_tellsIn_86 : decode cX12_tellsIn 86 = .ok (.iconst 3, 1) := by decide +kernel
theorem dX12_tellsIn_87 : decode cX12_tellsIn 87 = .ok (.iload_n 2, 1) := by decide +kernel
theorem dX12_tellsIn_88 : decode cX12_tellsIn 88 = .ok (.invokevirtual 249, 3) := by decide +kernel
theorem dX12_tellsIn_91 : decode cX12_tellsIn 91 = .ok (.isub, 1) := by decide +kernel
theorem dX12_tellsIn_92 : decode cX12_tellsIn 92 = .ok (.ireturn, 1) := by decide +kernel
theorem dX12_tellsIn_93 : decode cX12_tellsIn 93 = .ok (.aload_n 0, 1) := by decide +kernel
theorem dX12_tellsIn_94 : decode cX12_tellsIn 94 = .ok (.iload_n 1, 1) := by decide +kernel
theorem dX12_tellsIn_95 : decode cX12_tellsIn 95 = .ok (.invokestatic 93, 3) := by decide +kernel
theorem dX12_tellsIn_98 : decode cX12_tellsIn 98 = .ok (.iload_n 2, 1) := by decide +kernel
theorem dX12_tellsIn_99 : decode cX12_tellsIn 99 = .ok (.invokevirtual 249, 3) := by decide +kernel
theorem dX12_tellsIn_102 : decode cX12_tellsIn 102 = .ok (.ireturn, 1) := by decide +kernel
theorem dX12_voice_0 : decode cX12_voice 0 = .ok (.aload_n 0, 1) := by decide +kernel
theorem dX12_voice_1 : decode cX12_voice 1 = .ok (.iload_n 1, 1) := by decide +kernel
theorem dX12_voice_2 : decode cX12_voice 2 = .ok (.invokevirtual 66, 3) := by decide +kernel
theorem dX12_voice_5 : decode cX12_voice 5 = .ok (.ifCond .eq 12, 3) := by decide +kernel
theorem dX12_voice_8 : decode cX12_voice 8 = .ok (.iload_n 2, 1) := by decide +kernel
theorem dX12_voice_9 : decode cX12_voice 9 = .ok (.iconst 0, 1) := by decide +kernel
theorem dX12_voice_10 : decode cX12_voice 10 = .ok (.iconst 3, 1) := by decide +kernel
theorem dX12_voice_11 : decode cX12_voice 11 = .ok (.invokestatic 41, 3) := by decide +kernel
theorem dX12_voice_14 : decode cX12_voice 14 = .ok (.ifCond .ne 10, 3) := by decide +kernel
theorem dX12_voice_17 : decode cX12_voice 17 = .ok (.aload_n 0, 1) := by decide +kernel
theorem dX12_voice_18 : decode cX12_voice 18 = .ok (.ldc 53, 2) := by decide +kernel
theorem dX12_voice_20 : decode cX12_voice 20 = .ok (.invokevirtual 54, 3) := by decide +kernel
theorem dX12_voice_23 : decode cX12_voice 23 = .ok (.ireturn, 1) := by decide +kernel
theorem dX12_voice_24 : decode cX12_voice 24 = .ok (.aload_n 0, 1) := by decide +kernel
theorem dX12_voice_25 : decode cX12_voice 25 = .ok (.iconst 0, 1) := by decide +kernel
theorem dX12_voice_26 : decode cX12_voice 26 = .ok (.putfield 225, 3) := by decide +kernel
theorem dX12_voice_29 : decode cX12_voice 29 = .ok (.aload_n 0, 1) := by decide +kernel
theorem dX12_voice_30 : decode cX12_voice 30 = .ok (.aload_n 0, 1) := by decide +kernel
theorem dX12_voice_31 : decode cX12_voice 31 = .ok (.iload_n 1, 1) := by decide +kernel
theorem dX12_voice_32 : decode cX12_voice 32 = .ok (.iconst 0, 1) := by decide +kernel
theorem dX12_voice_33 : decode cX12_voice 33 = .ok (.invokevirtual 69, 3) := by decide +kernel
theorem dX12_voice_36 : decode cX12_voice 36 = .ok (.putfield 243, 3) := by decide +kernel
theorem dX12_voice_39 : decode cX12_voice 39 = .ok (.aload_n 0, 1) := by decide +kernel
theorem dX12_voice_40 : decode cX12_voice 40 = .ok (.iload_n 1, 1) := by decide +kernel
theorem dX12_voice_41 : decode cX12_voice 41 = .ok (.putfield 231, 3) := by decide +kernel
theorem dX12_voice_44 : decode cX12_voice 44 = .ok (.aload_n 0, 1) := by decide +kernel
theorem dX12_voice_45 : decode cX12_voice 45 = .ok (.aload_n 0, 1) := by decide +kernel
theorem dX12_voice_46 : decode cX12_voice 46 = .ok (.iload_n 1, 1) := by decide +kernel
theorem dX12_voice_47 : decode cX12_voice 47 = .ok (.iconst 1, 1) := by decide +kernel
theorem dX12_voice_48 : decode cX12_voice 48 = .ok (.invokevirtual 69, 3) := by decide +kernel
theorem dX12_voice_51 : decode cX12_voice 51 = .ok (.putfield 237, 3) := by decide +kernel
theorem dX12_voice_54 : decode cX12_voice 54 = .ok (.iload_n 2, 1) := by decide +kernel
theorem dX12_voice_55 : decode cX12_voice 55 = .ok (.tableswitch 55 0 2 #[25, 35, 45], 25) := by decide +kernel
theorem dX12_voice_80 : decode cX12_voice 80 = .ok (.aload_n 0, 1) := by decide +kernel
theorem dX12_voice_81 : decode cX12_voice 81 = .ok (.aload_n 0, 1) := by decide +kernel
theorem dX12_voice_82 : decode cX12_voice 82 = .ok (.getfield 243, 3) := by decide +kernel
theorem dX12_voice_85 : decode cX12_voice 85 = .ok (.iload_n 3, 1) := by decide +kernel
theorem dX12_voice_86 : decode cX12_voice 86 = .ok (.invokevirtual 234, 3) := by decide +kernel
theorem dX12_voice_89 : decode cX12_voice 89 = .ok (.ireturn, 1) := by decide +kernel
theorem dX12_voice_90 : decode cX12_voice 90 = .ok (.aload_n 0, 1) := by decide +kernel
theorem dX12_voice_91 : decode cX12_voice 91 = .ok (.aload_n 0, 1) := by decide +kernel
theorem dX12_voice_92 : decode cX12_voice 92 = .ok (.getfield 243, 3) := by decide +kernel
theorem dX12_voice_95 : decode cX12_voice 95 = .ok (.iload_n 3, 1) := by decide +kernel
theorem dX12_voice_96 : decode cX12_voice 96 = .ok (.invokevirtual 246, 3) := by decide +kernel
theorem dX12_voice_99 : decode cX12_voice 99 = .ok (.ireturn, 1) := by decide +kernel
theorem dX12_voice_100 : decode cX12_voice 100 = .ok (.aload_n 0, 1) := by decide +kernel
theorem dX12_voice_101 : decode cX12_voice 101 = .ok (.aload_n 0, 1) := by decide +kernel
theorem dX12_voice_102 : decode cX12_voice 102 = .ok (.getfield 243, 3) := by decide +kernel
theorem dX12_voice_105 : decode cX12_voice 105 = .ok (.iload_n 3, 1) := by decide +kernel
theorem dX12_voice_106 : decode cX12_voice 106 = .ok (.invokevirtual 240, 3) := by decide +kernel
theorem dX12_voice_109 : decode cX12_voice 109 = .ok (.ireturn, 1) := by decide +kernel
theorem dX12_voice_110 : decode cX12_voice 110 = .ok (.aload_n 0, 1) := by decide +kernel
theorem dX12_voice_111 : decode cX12_voice 111 = .ok (.aload_n 0, 1) := by decide +kernel
theorem dX12_voice_112 : decode cX12_voice 112 = .ok (.getfield 243, 3) := by decide +kernel
theorem dX12_voice_115 : decode cX12_voice 115 = .ok (.iload_n 3, 1) := by decide +kernel
theorem dX12_voice_116 : decode cX12_voice 116 = .ok (.invokevirtual 249, 3) := by decide +kernel
theorem dX12_voice_119 : decode cX12_voice 119 = .ok (.ireturn, 1) := by decide +kernel
theorem dX12_trace_0 : decode cX12_trace 0 = .ok (.iload_n 1, 1) := by decide +kernel
theorem dX12_trace_1 : decode cX12_trace 1 = .ok (.iconst 0, 1) := by decide +kernel
theorem dX12_trace_2 : decode cX12_trace 2 = .ok (.aload_n 0, 1) := by decide +kernel
theorem dX12_trace_3 : decode cX12_trace 3 = .ok (.getfield 225, 3) := by decide +kernel
theorem dX12_trace_6 : decode cX12_trace 6 = .ok (.iconst 1, 1) := by decide +kernel
theorem dX12_trace_7 : decode cX12_trace 7 = .ok (.isub, 1) := by decide +kernel
theorem dX12_trace_8 : decode cX12_trace 8 = .ok (.invokestatic 41, 3) := by decide +kernel
theorem dX12_trace_11 : decode cX12_trace 11 = .ok (.ifCond .eq 12, 3) := by decide +kernel
theorem dX12_trace_14 : decode cX12_trace 14 = .ok (.aload_n 0, 1) := by decide +kernel
theorem dX12_trace_15 : decode cX12_trace 15 = .ok (.getfield 37, 3) := by decide +kernel
theorem dX12_trace_18 : decode cX12_trace 18 = .ok (.iload_n 1, 1) := by decide +kernel
theorem dX12_trace_19 : decode cX12_trace 19 = .ok (.iaload, 1) := by decide +kernel
theorem dX12_trace_20 : decode cX12_trace 20 = .ok (.goto 9, 3) := by decide +kernel
theorem dX12_trace_23 : decode cX12_trace 23 = .ok (.aload_n 0, 1) := by decide +kernel
theorem dX12_trace_24 : decode cX12_trace 24 = .ok (.ldc 202, 2) := by decide +kernel
theorem dX12_trace_26 : decode cX12_trace 26 = .ok (.invokevirtual 54, 3) := by decide +kernel
theorem dX12_trace_29 : decode cX12_trace 29 = .ok (.ireturn, 1) := by decide +kernel
theorem dX12_narrow_0 : decode cX12_narrow 0 = .ok (.iload_n 0, 1) := by decide +kernel
theorem dX12_narrow_1 : decode cX12_narrow 1 = .ok (.bipush 8, 2) := by decide +kernel
theorem dX12_narrow_3 : decode cX12_narrow 3 = .ok (.if_icmp .ne 8, 3) := by decide +kernel
theorem dX12_narrow_6 : decode cX12_narrow 6 = .ok (.iload_n 1, 1) := by decide +kernel
theorem dX12_narrow_7 : decode cX12_narrow 7 = .ok (.i2b, 1) := by decide +kernel
theorem dX12_narrow_8 : decode cX12_narrow 8 = .ok (.goto 15, 3) := by decide +kernel
theorem dX12_narrow_11 : decode cX12_narrow 11 = .ok (.iload_n 0, 1) := by decide +kernel
theorem dX12_narrow_12 : decode cX12_narrow 12 = .ok (.bipush 16, 2) := by decide +kernel
theorem dX12_narrow_14 : decode cX12_narrow 14 = .ok (.if_icmp .ne 8, 3) := by decide +kernel
theorem dX12_narrow_17 : decode cX12_narrow 17 = .ok (.iload_n 1, 1) := by decide +kernel
theorem dX12_narrow_18 : decode cX12_narrow 18 = .ok (.i2s, 1) := by decide +kernel
theorem dX12_narrow_19 : decode cX12_narrow 19 = .ok (.goto 4, 3) := by decide +kernel
theorem dX12_narrow_22 : decode cX12_narrow 22 = .ok (.iload_n 1, 1) := by decide +kernel
theorem dX12_narrow_23 : decode cX12_narrow 23 = .ok (.ireturn, 1) := by decide +kernel
theorem dX12_sheet_0 : decode cX12_sheet 0 = .ok (.iload_n 1, 1) := by decide +kernel
theorem dX12_sheet_1 : decode cX12_sheet 1 = .ok (.invokestatic 203, 3) := by decide +kernel
theorem dX12_sheet_4 : decode cX12_sheet 4 = .ok (.ifCond .eq 25, 3) := by decide +kernel
theorem dX12_sheet_7 : decode cX12_sheet 7 = .ok (.iload_n 2, 1) := by decide +kernel
theorem dX12_sheet_8 : decode cX12_sheet 8 = .ok (.ifCond .eq 28, 3) := by decide +kernel
theorem dX12_sheet_11 : decode cX12_sheet 11 = .ok (.iload_n 2, 1) := by decide +kernel
theorem dX12_sheet_12 : decode cX12_sheet 12 = .ok (.bipush 8, 2) := by decide +kernel
theorem dX12_sheet_14 : decode cX12_sheet 14 = .ok (.if_icmp .eq 22, 3) := by decide +kernel
theorem dX12_sheet_17 : decode cX12_sheet 17 = .ok (.iload_n 2, 1) := by decide +kernel
theorem dX12_sheet_18 : decode cX12_sheet 18 = .ok (.bipush 16, 2) := by decide +kernel
theorem dX12_sheet_20 : decode cX12_sheet 20 = .ok (.if_icmp .eq 16, 3) := by decide +kernel
theorem dX12_sheet_23 : decode cX12_sheet 23 = .ok (.iload_n 2, 1) := by decide +kernel
theorem dX12_sheet_24 : decode cX12_sheet 24 = .ok (.bipush 32, 2) := by decide +kernel
theorem dX12_sheet_26 : decode cX12_sheet 26 = .ok (.if_icmp .eq 10, 3) := by decide +kernel
theorem dX12_sheet_29 : decode cX12_sheet 29 = .ok (.aload_n 0, 1) := by decide +kernel
theorem dX12_sheet_30 : decode cX12_sheet 30 = .ok (.ldc 53, 2) := by decide +kernel
theorem dX12_sheet_32 : decode cX12_sheet 32 = .ok (.invokevirtual 54, 3) := by decide +kernel
theorem dX12_sheet_35 : decode cX12_sheet 35 = .ok (.ireturn, 1) := by decide +kernel
theorem dX12_sheet_36 : decode cX12_sheet 36 = .ok (.iload_n 2, 1) := by decide +kernel
theorem dX12_sheet_37 : decode cX12_sheet 37 = .ok (.ifCond .eq 14, 3) := by decide +kernel
theorem dX12_sheet_40 : decode cX12_sheet 40 = .ok (.iload_n 3, 1) := by decide +kernel
theorem dX12_sheet_41 : decode cX12_sheet 41 = .ok (.ifCond .ge 10, 3) := by decide +kernel
theorem dX12_sheet_44 : decode cX12_sheet 44 = .ok (.aload_n 0, 1) := by decide +kernel
theorem dX12_sheet_45 : decode cX12_sheet 45 = .ok (.ldc 194, 2) := by decide +kernel
theorem dX12_sheet_47 : decode cX12_sheet 47 = .ok (.invokevirtual 54, 3) := by decide +kernel
theorem dX12_sheet_50 : decode cX12_sheet 50 = .ok (.ireturn, 1) := by decide +kernel
theorem dX12_sheet_51 : decode cX12_sheet 51 = .ok (.iload_n 2, 1) := by decide +kernel
theorem dX12_sheet_52 : decode cX12_sheet 52 = .ok (.ifCond .eq 16, 3) := by decide +kernel
theorem dX12_sheet_55 : decode cX12_sheet 55 = .ok (.iload_n 3, 1) := by decide +kernel
theorem dX12_sheet_56 : decode cX12_sheet 56 = .ok (.bipush 40, 2) := by decide +kernel
theorem dX12_sheet_58 : decode cX12_sheet 58 = .ok (.if_icmp .le 10, 3) := by decide +kernel
theorem dX12_sheet_61 : decode cX12_sheet 61 = .ok (.aload_n 0, 1) := by decide +kernel
theorem dX12_sheet_62 : decode cX12_sheet 62 = .ok (.ldc 53, 2) := by decide +kernel
theorem dX12_sheet_64 : decode cX12_sheet 64 = .ok (.invokevirtual 54, 3) := by decide +kernel
theorem dX12_sheet_67 : decode cX12_sheet 67 = .ok (.ireturn, 1) := by decide +kernel
theorem dX12_sheet_68 : decode cX12_sheet 68 = .ok (.aload_n 0, 1) := by decide +kernel
theorem dX12_sheet_69 : decode cX12_sheet 69 = .ok (.getfield 25, 3) := by decide +kernel
theorem dX12_sheet_72 : decode cX12_sheet 72 = .ok (.iload_n 1, 1) := by decide +kernel
theorem dX12_sheet_73 : decode cX12_sheet 73 = .ok (.iload_n 2, 1) := by decide +kernel
theorem dX12_sheet_74 : decode cX12_sheet 74 = .ok (.iastore, 1) := by decide +kernel
theorem dX12_sheet_75 : decode cX12_sheet 75 = .ok (.aload_n 0, 1) := by decide +kernel
theorem dX12_sheet_76 : decode cX12_sheet 76 = .ok (.getfield 28, 3) := by decide +kernel
theorem dX12_sheet_79 : decode cX12_sheet 79 = .ok (.iload_n 1, 1) := by decide +kernel
theorem dX12_sheet_80 : decode cX12_sheet 80 = .ok (.iload_n 2, 1) := by decide +kernel
theorem dX12_sheet_81 : decode cX12_sheet 81 = .ok (.ifCond .ne 7, 3) := by decide +kernel
theorem dX12_sheet_84 : decode cX12_sheet 84 = .ok (.iconst 0, 1) := by decide +kernel
theorem dX12_sheet_85 : decode cX12_sheet 85 = .ok (.goto 4, 3) := by decide +kernel
theorem dX12_sheet_88 : decode cX12_sheet 88 = .ok (.iload_n 3, 1) := by decide +kernel
theorem dX12_sheet_89 : decode cX12_sheet 89 = .ok (.iastore, 1) := by decide +kernel
theorem dX12_sheet_90 : decode cX12_sheet 90 = .ok (.iconst 0, 1) := by decide +kernel
theorem dX12_sheet_91 : decode cX12_sheet 91 = .ok (.istore 4, 2) := by decide +kernel
theorem dX12_sheet_93 : decode cX12_sheet 93 = .ok (.iload 4, 2) := by decide +kernel
theorem dX12_sheet_95 : decode cX12_sheet 95 = .ok (.bipush 40, 2) := by decide +kernel
theorem dX12_sheet_97 : decode cX12_sheet 97 = .ok (.if_icmp .ge 22, 3) := by decide +kernel
theorem dX12_sheet_100 : decode cX12_sheet 100 = .ok (.aload_n 0, 1) := by decide +kernel
theorem dX12_sheet_101 : decode cX12_sheet 101 = .ok (.getfield 31, 3) := by decide +kernel
theorem dX12_sheet_104 : decode cX12_sheet 104 = .ok (.bipush 40, 2) := by decide +kernel
theorem dX12_sheet_106 : decode cX12_sheet 106 = .ok (.iload_n 1, 1) := by decide +kernel
theorem dX12_sheet_107 : decode cX12_sheet 107 = .ok (.imul, 1) := by decide +kernel
theorem dX12_sheet_108 : decode cX12_sheet 108 = .ok (.iload 4, 2) := by decide +kernel
theorem dX12_sheet_110 : decode cX12_sheet 110 = .ok (.iadd, 1) := by decide +kernel
theorem dX12_sheet_111 : decode cX12_sheet 111 = .ok (.iconst 0, 1) := by decide +kernel
theorem dX12_sheet_112 : decode cX12_sheet 112 = .ok (.iastore, 1) := by decide +kernel
theorem dX12_sheet_113 : decode cX12_sheet 113 = .ok (.iinc 4 1, 3) := by decide +kernel
theorem dX12_sheet_116 : decode cX12_sheet 116 = .ok (.goto (-23), 3) := by decide +kernel
theorem dX12_sheet_119 : decode cX12_sheet 119 = .ok (.iconst 1, 1) := by decide +kernel
theorem dX12_sheet_120 : decode cX12_sheet 120 = .ok (.ireturn, 1) := by decide +kernel
theorem dX12_put_0 : decode cX12_put 0 = .ok (.iload_n 1, 1) := by decide +kernel
theorem dX12_put_1 : decode cX12_put 1 = .ok (.invokestatic 203, 3) := by decide +kernel
theorem dX12_put_4 : decode cX12_put 4 = .ok (.ifCond .ne 10, 3) := by decide +kernel
theorem dX12_put_7 : decode cX12_put 7 = .ok (.aload_n 0, 1) := by decide +kernel
theorem dX12_put_8 : decode cX12_put 8 = .ok (.ldc 53, 2) := by decide +kernel
theorem dX12_put_10 : decode cX12_put 10 = .ok (.invokevirtual 54, 3) := by decide +kernel
theorem dX12_put_13 : decode cX12_put 13 = .ok (.ireturn, 1) := by decide +kernel
theorem dX12_put_14 : decode cX12_put 14 = .ok (.aload_n 0, 1) := by decide +kernel
theorem dX12_put_15 : decode cX12_put 15 = .ok (.getfield 25, 3) := by decide +kernel
theorem dX12_put_18 : decode cX12_put 18 = .ok (.iload_n 1, 1) := by decide +kernel
theorem dX12_put_19 : decode cX12_put 19 = .ok (.iaload, 1) := by decide +kernel
theorem dX12_put_20 : decode cX12_put 20 = .ok (.ifCond .ne 10, 3) := by decide +kernel
theorem dX12_put_23 : decode cX12_put 23 = .ok (.aload_n 0, 1) := by decide +kernel
theorem dX12_put_24 : decode cX12_put 24 = .ok (.ldc 202, 2) := by decide +kernel
theorem dX12_put_26 : decode cX12_put 26 = .ok (.invokevirtual 54, 3) := by decide +kernel
theorem dX12_put_29 : decode cX12_put 29 = .ok (.ireturn, 1) := by decide +kernel
theorem dX12_put_30 : decode cX12_put 30 = .ok (.iload_n 2, 1) := by decide +kernel
theorem dX12_put_31 : decode cX12_put 31 = .ok (.iconst 0, 1) := by decide +kernel
theorem dX12_put_32 : decode cX12_put 32 = .ok (.aload_n 0, 1) := by decide +kernel
theorem dX12_put_33 : decode cX12_put 33 = .ok (.getfield 28, 3) := by decide +kernel
theorem dX12_put_36 : decode cX12_put 36 = .ok (.iload_n 1, 1) := by decide +kernel
theorem dX12_put_37 : decode cX12_put 37 = .ok (.iaload, 1) := by decide +kernel
theorem dX12_put_38 : decode cX12_put 38 = .ok (.iconst 1, 1) := by decide +kernel
theorem dX12_put_39 : decode cX12_put 39 = .ok (.isub, 1) := by decide +kernel
theorem dX12_put_40 : decode cX12_put 40 = .ok (.invokestatic 41, 3) := by decide +kernel
theorem dX12_put_43 : decode cX12_put 43 = .ok (.ifCond .ne 10, 3) := by decide +kernel
theorem dX12_put_46 : decode cX12_put 46 = .ok (.aload_n 0, 1) := by decide +kernel
theorem dX12_put_47 : decode cX12_put 47 = .ok (.ldc 53, 2) := by decide +kernel
theorem dX12_put_49 : decode cX12_put 49 = .ok (.invokevirtual 54, 3) := by decide +kernel
theorem dX12_put_52 : decode cX12_put 52 = .ok (.ireturn, 1) := by decide +kernel
theorem dX12_put_53 : decode cX12_put 53 = .ok (.aload_n 0, 1) := by decide +kernel
theorem dX12_put_54 : decode cX12_put 54 = .ok (.getfield 31, 3) := by decide +kernel
theorem dX12_put_57 : decode cX12_put 57 = .ok (.bipush 40, 2) := by decide +kernel
theorem dX12_put_59 : decode cX12_put 59 = .ok (.iload_n 1, 1) := by decide +kernel
theorem dX12_put_60 : decode cX12_put 60 = .ok (.imul, 1) := by decide +kernel
theorem dX12_put_61 : decode cX12_put 61 = .ok (.iload_n 2, 1) := by decide +kernel
theorem dX12_put_62 : decode cX12_put 62 = .ok (.iadd, 1) := by decide +kernel
theorem dX12_put_63 : decode cX12_put 63 = .ok (.aload_n 0, 1) := by decide +kernel
theorem dX12_put_64 : decode cX12_put 64 = .ok (.getfield 25, 3) := by decide +kernel
theorem dX12_put_67 : decode cX12_put 67 = .ok (.iload_n 1, 1) := by decide +kernel
theorem dX12_put_68 : decode cX12_put 68 = .ok (.iaload, 1) := by decide +kernel
theorem dX12_put_69 : decode cX12_put 69 = .ok (.iload_n 3, 1) := by decide +kernel
theorem dX12_put_70 : decode cX12_put 70 = .ok (.invokestatic 252, 3) := by decide +kernel
theorem dX12_put_73 : decode cX12_put 73 = .ok (.iastore, 1) := by decide +kernel
theorem dX12_put_74 : decode cX12_put 74 = .ok (.iconst 1, 1) := by decide +kernel
theorem dX12_put_75 : decode cX12_put 75 = .ok (.ireturn, 1) := by decide +kernel
theorem dX12_move_0 : decode cX12_move 0 = .ok (.iload_n 1, 1) := by decide +kernel
theorem dX12_move_1 : decode cX12_move 1 = .ok (.invokestatic 203, 3) := by decide +kernel
theorem dX12_move_4 : decode cX12_move 4 = .ok (.ifCond .eq 10, 3) := by decide +kernel
theorem dX12_move_7 : decode cX12_move 7 = .ok (.iload_n 3, 1) := by decide +kernel
theorem dX12_move_8 : decode cX12_move 8 = .ok (.invokestatic 203, 3) := by decide +kernel
theorem dX12_move_11 : decode cX12_move 11 = .ok (.ifCond .ne 10, 3) := by decide +kernel
theorem dX12_move_14 : decode cX12_move 14 = .ok (.aload_n 0, 1) := by decide +kernel
theorem dX12_move_15 : decode cX12_move 15 = .ok (.ldc 53, 2) := by decide +kernel
theorem dX12_move_17 : decode cX12_move 17 = .ok (.invokevirtual 54, 3) := by decide +kernel
theorem dX12_move_20 : decode cX12_move 20 = .ok (.ireturn, 1) := by decide +kernel
theorem dX12_move_21 : decode cX12_move 21 = .ok (.aload_n 0, 1) := by decide +kernel
theorem dX12_move_22 : decode cX12_move 22 = .ok (.getfield 25, 3) := by decide +kernel
theorem dX12_move_25 : decode cX12_move 25 = .ok (.iload_n 1, 1) := by decide +kernel
theorem dX12_move_26 : decode cX12_move 26 = .ok (.iaload, 1) := by decide +kernel
theorem dX12_move_27 : decode cX12_move 27 = .ok (.ifCond .eq 12, 3) := by decide +kernel
theorem dX12_move_30 : decode cX12_move 30 = .ok (.aload_n 0, 1) := by decide +kernel
theorem dX12_move_31 : decode cX12_move 31 = .ok (.getfield 25, 3) := by decide +kernel
theorem dX12_move_34 : decode cX12_move 34 = .ok (.iload_n 3, 1) := by decide +kernel
theorem dX12_move_35 : decode cX12_move 35 = .ok (.iaload, 1) := by decide +kernel
theorem dX12_move_36 : decode cX12_move 36 = .ok (.ifCond .ne 10, 3) := by decide +kernel
theorem dX12_move_39 : decode cX12_move 39 = .ok (.aload_n 0, 1) := by decide +kernel
theorem dX12_move_40 : decode cX12_move 40 = .ok (.ldc 202, 2) := by decide +kernel
theorem dX12_move_42 : decode cX12_move 42 = .ok (.invokevirtual 54, 3) := by decide +kernel
theorem dX12_move_45 : decode cX12_move 45 = .ok (.ireturn, 1) := by decide +kernel
theorem dX12_move_46 : decode cX12_move 46 = .ok (.aload_n 0, 1) := by decide +kernel
theorem dX12_move_47 : decode cX12_move 47 = .ok (.getfield 25, 3) := by decide +kernel
theorem dX12_move_50 : decode cX12_move 50 = .ok (.iload_n 1, 1) := by decide +kernel
theorem dX12_move_51 : decode cX12_move 51 = .ok (.iaload, 1) := by decide +kernel
theorem dX12_move_52 : decode cX12_move 52 = .ok (.aload_n 0, 1) := by decide +kernel
theorem dX12_move_53 : decode cX12_move 53 = .ok (.getfield 25, 3) := by decide +kernel
theorem dX12_move_56 : decode cX12_move 56 = .ok (.iload_n 3, 1) := by decide +kernel
theorem dX12_move_57 : decode cX12_move 57 = .ok (.iaload, 1) := by decide +kernel
theorem dX12_move_58 : decode cX12_move 58 = .ok (.if_icmp .eq 10, 3) := by decide +kernel
theorem dX12_move_61 : decode cX12_move 61 = .ok (.aload_n 0, 1) := by decide +kernel
theorem dX12_move_62 : decode cX12_move 62 = .ok (.ldc 96, 2) := by decide +kernel
theorem dX12_move_64 : decode cX12_move 64 = .ok (.invokevirtual 54, 3) := by decide +kernel
theorem dX12_move_67 : decode cX12_move 67 = .ok (.ireturn, 1) := by decide +kernel
theorem dX12_move_68 : decode cX12_move 68 = .ok (.iload 5, 2) := by decide +kernel
theorem dX12_move_70 : decode cX12_move 70 = .ok (.ifCond .lt 39, 3) := by decide +kernel
theorem dX12_move_73 : decode cX12_move 73 = .ok (.iload_n 2, 1) := by decide +kernel
theorem dX12_move_74 : decode cX12_move 74 = .ok (.ifCond .lt 35, 3) := by decide +kernel
theorem dX12_move_77 : decode cX12_move 77 = .ok (.iload 4, 2) := by decide +kernel
theorem dX12_move_79 : decode cX12_move 79 = .ok (.ifCond .lt 30, 3) := by decide +kernel
theorem dX12_move_82 : decode cX12_move 82 = .ok (.iload_n 2, 1) := by decide +kernel
theorem dX12_move_83 : decode cX12_move 83 = .ok (.aload_n 0, 1) := by decide +kernel
theorem dX12_move_84 : decode cX12_move 84 = .ok (.getfield 28, 3) := by decide +kernel
theorem dX12_move_87 : decode cX12_move 87 = .ok (.iload_n 1, 1) := by decide +kernel
theorem dX12_move_88 : decode cX12_move 88 = .ok (.iaload, 1) := by decide +kernel
theorem dX12_move_89 : decode cX12_move 89 = .ok (.iload 5, 2) := by decide +kernel
theorem dX12_move_91 : decode cX12_move 91 = .ok (.isub, 1) := by decide +kernel
theorem dX12_move_92 : decode cX12_move 92 = .ok (.if_icmp .gt 17, 3) := by decide +kernel
theorem dX12_move_95 : decode cX12_move 95 = .ok (.iload 4, 2) := by decide +kernel
theorem dX12_move_97 : decode cX12_move 97 = .ok (.aload_n 0, 1) := by decide +kernel
theorem dX12_move_98 : decode cX12_move 98 = .ok (.getfield 28, 3) := by decide +kernel
theorem dX12_move_101 : decode cX12_move 101 = .ok (.iload_n 3, 1) := by decide +kernel
theorem dX12_move_102 : decode cX12_move 102 = .ok (.iaload, 1) := by decide +kernel
theorem dX12_move_103 : decode cX12_move 103 = .ok (.iload 5, 2) := by decide +kernel
theorem dX12_move_105 : decode cX12_move 105 = .ok (.isub, 1) := by decide +kernel
theorem dX12_move_106 : decode cX12_move 106 = .ok (.if_icmp .le 10, 3) := by decide +kernel
theorem dX12_move_109 : decode cX12_move 109 = .ok (.aload_n 0, 1) := by decide +kernel
theorem dX12_move_110 : decode cX12_move 110 = .ok (.ldc 53, 2) := by decide +kernel
theorem dX12_move_112 : decode cX12_move 112 = .ok (.invokevirtual 54, 3) := by decide +kernel
theorem dX12_move_115 : decode cX12_move 115 = .ok (.ireturn, 1) := by decide +kernel
theorem dX12_move_116 : decode cX12_move 116 = .ok (.iconst 0, 1) := by decide +kernel
theorem dX12_move_117 : decode cX12_move 117 = .ok (.istore 6, 2) := by decide +kernel
theorem dX12_move_119 : decode cX12_move 119 = .ok (.iload 6, 2) := by decide +kernel
theorem dX12_move_121 : decode cX12_move 121 = .ok (.iload 5, 2) := by decide +kernel
theorem dX12_move_123 : decode cX12_move 123 = .ok (.if_icmp .ge 30, 3) := by decide +kernel
theorem dX12_move_126 : decode cX12_move 126 = .ok (.aload_n 0, 1) := by decide +kernel
theorem dX12_move_127 : decode cX12_move 127 = .ok (.getfield 34, 3) := by decide +kernel
theorem dX12_move_130 : decode cX12_move 130 = .ok (.iload 6, 2) := by decide +kernel
theorem dX12_move_132 : decode cX12_move 132 = .ok (.aload_n 0, 1) := by decide +kernel
theorem dX12_move_133 : decode cX12_move 133 = .ok (.getfield 31, 3) := by decide +kernel
theorem dX12_move_136 : decode cX12_move 136 = .ok (.bipush 40, 2) := by decide +kernel
theorem dX12_move_138 : decode cX12_move 138 = .ok (.iload_n 1, 1) := by decide +kernel
theorem dX12_move_139 : decode cX12_move 139 = .ok (.imul, 1) := by decide +kernel
theorem dX12_move_140 : decode cX12_move 140 = .ok (.iload_n 2, 1) := by decide +kernel
theorem dX12_move_141 : decode cX12_move 141 = .ok (.iadd, 1) := by decide +kernel
theorem dX12_move_142 : decode cX12_move 142 = .ok (.iload 6, 2) := by decide +kernel
theorem dX12_move_144 : decode cX12_move 144 = .ok (.iadd, 1) := by decide +kernel
theorem dX12_move_145 : decode cX12_move 145 = .ok (.iaload, 1) := by decide +kernel
theorem dX12_move_146 : decode cX12_move 146 = .ok (.iastore, 1) := by decide +kernel
theorem dX12_move_147 : decode cX12_move 147 = .ok (.iinc 6 1, 3) := by decide +kernel
theorem dX12_move_150 : decode cX12_move 150 = .ok (.goto (-31), 3) := by decide +kernel
theorem dX12_move_153 : decode cX12_move 153 = .ok (.iconst 0, 1) := by decide +kernel
theorem dX12_move_154 : decode cX12_move 154 = .ok (.istore 6, 2) := by decide +kernel
theorem dX12_move_156 : decode cX12_move 156 = .ok (.iload 6, 2) := by decide +kernel
theorem dX12_move_158 : decode cX12_move 158 = .ok (.iload 5, 2) := by decide +kernel
theorem dX12_move_160 : decode cX12_move 160 = .ok (.if_icmp .ge 31, 3) := by decide +kernel
theorem dX12_move_163 : decode cX12_move 163 = .ok (.aload_n 0, 1) := by decide +kernel
theorem dX12_move_164 : decode cX12_move 164 = .ok (.getfield 31, 3) := by decide +kernel
theorem dX12_move_167 : decode cX12_move 167 = .ok (.bipush 40, 2) := by decide +kernel
theorem dX12_move_169 : decode cX12_move 169 = .ok (.iload_n 3, 1) := by decide +kernel
theorem dX12_move_170 : decode cX12_move 170 = .ok (.imul, 1) := by decide +kernel
theorem dX12_move_171 : decode cX12_move 171 = .ok (.iload 4, 2) := by decide +kernel
theorem dX12_move_173 : decode cX12_move 173 = .ok (.iadd, 1) := by decide +kernel
theorem dX12_move_174 : decode cX12_move 174 = .ok (.iload 6, 2) := by decide +kernel
theorem dX12_move_176 : decode cX12_move 176 = .ok (.iadd, 1) := by decide +kernel
theorem dX12_move_177 : decode cX12_move 177 = .ok (.aload_n 0, 1) := by decide +kernel
theorem dX12_move_178 : decode cX12_move 178 = .ok (.getfield 34, 3) := by decide +kernel
theorem dX12_move_181 : decode cX12_move 181 = .ok (.iload 6, 2) := by decide +kernel
theorem dX12_move_183 : decode cX12_move 183 = .ok (.iaload, 1) := by decide +kernel
theorem dX12_move_184 : decode cX12_move 184 = .ok (.iastore, 1) := by decide +kernel
theorem dX12_move_185 : decode cX12_move 185 = .ok (.iinc 6 1, 3) := by decide +kernel
theorem dX12_move_188 : decode cX12_move 188 = .ok (.goto (-32), 3) := by decide +kernel
theorem dX12_move_191 : decode cX12_move 191 = .ok (.iload 5, 2) := by decide +kernel
theorem dX12_move_193 : decode cX12_move 193 = .ok (.ireturn, 1) := by decide +kernel
theorem dX12_bases_0 : decode cX12_bases 0 = .ok (.iload_n 1, 1) := by decide +kernel
theorem dX12_bases_1 : decode cX12_bases 1 = .ok (.invokestatic 203, 3) := by decide +kernel
theorem dX12_bases_4 : decode cX12_bases 4 = .ok (.ifCond .ne 10, 3) := by decide +kernel
theorem dX12_bases_7 : decode cX12_bases 7 = .ok (.aload_n 0, 1) := by decide +kernel
theorem dX12_bases_8 : decode cX12_bases 8 = .ok (.ldc 53, 2) := by decide +kernel
theorem dX12_bases_10 : decode cX12_bases 10 = .ok (.invokevirtual 54, 3) := by decide +kernel
theorem dX12_bases_13 : decode cX12_bases 13 = .ok (.ireturn, 1) := by decide +kernel
theorem dX12_bases_14 : decode cX12_bases 14 = .ok (.aload_n 0, 1) := by decide +kernel
theorem dX12_bases_15 : decode cX12_bases 15 = .ok (.getfield 25, 3) := by decide +kernel
theorem dX12_bases_18 : decode cX12_bases 18 = .ok (.iload_n 1, 1) := by decide +kernel
theorem dX12_bases_19 : decode cX12_bases 19 = .ok (.iaload, 1) := by decide +kernel
theorem dX12_bases_20 : decode cX12_bases 20 = .ok (.ifCond .ne 10, 3) := by decide +kernel
theorem dX12_bases_23 : decode cX12_bases 23 = .ok (.aload_n 0, 1) := by decide +kernel
theorem dX12_bases_24 : decode cX12_bases 24 = .ok (.ldc 202, 2) := by decide +kernel
theorem dX12_bases_26 : decode cX12_bases 26 = .ok (.invokevirtual 54, 3) := by decide +kernel
theorem dX12_bases_29 : decode cX12_bases 29 = .ok (.ireturn, 1) := by decide +kernel
theorem dX12_bases_30 : decode cX12_bases 30 = .ok (.iconst 0, 1) := by decide +kernel
theorem dX12_bases_31 : decode cX12_bases 31 = .ok (.istore_n 2, 1) := by decide +kernel
