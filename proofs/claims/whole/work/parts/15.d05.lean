theorem dX12_feed_38 : decode cX12_feed 38 = .ok (.istore 4, 2) := by decide +kernel
theorem dX12_feed_40 : decode cX12_feed 40 = .ok (.iload 4, 2) := by decide +kernel
theorem dX12_feed_42 : decode cX12_feed 42 = .ok (.iload_n 3, 1) := by decide +kernel
theorem dX12_feed_43 : decode cX12_feed 43 = .ok (.if_icmp .ge 45, 3) := by decide +kernel
theorem dX12_feed_46 : decode cX12_feed 46 = .ok (.aload_n 0, 1) := by decide +kernel
theorem dX12_feed_47 : decode cX12_feed 47 = .ok (.getfield 7, 3) := by decide +kernel
theorem dX12_feed_50 : decode cX12_feed 50 = .ok (.bipush 74, 2) := by decide +kernel
theorem dX12_feed_52 : decode cX12_feed 52 = .ok (.aload_n 0, 1) := by decide +kernel
theorem dX12_feed_53 : decode cX12_feed 53 = .ok (.getfield 7, 3) := by decide +kernel
theorem dX12_feed_56 : decode cX12_feed 56 = .ok (.iconst 4, 1) := by decide +kernel
theorem dX12_feed_57 : decode cX12_feed 57 = .ok (.iaload, 1) := by decide +kernel
theorem dX12_feed_58 : decode cX12_feed 58 = .ok (.iadd, 1) := by decide +kernel
theorem dX12_feed_59 : decode cX12_feed 59 = .ok (.lload_n 1, 1) := by decide +kernel
theorem dX12_feed_60 : decode cX12_feed 60 = .ok (.bipush 8, 2) := by decide +kernel
theorem dX12_feed_62 : decode cX12_feed 62 = .ok (.iload 4, 2) := by decide +kernel
theorem dX12_feed_64 : decode cX12_feed 64 = .ok (.imul, 1) := by decide +kernel
theorem dX12_feed_65 : decode cX12_feed 65 = .ok (.lshr, 1) := by decide +kernel
theorem dX12_feed_66 : decode cX12_feed 66 = .ok (.ldc2_w 168, 3) := by decide +kernel
theorem dX12_feed_69 : decode cX12_feed 69 = .ok (.land, 1) := by decide +kernel
theorem dX12_feed_70 : decode cX12_feed 70 = .ok (.l2i, 1) := by decide +kernel
theorem dX12_feed_71 : decode cX12_feed 71 = .ok (.iastore, 1) := by decide +kernel
theorem dX12_feed_72 : decode cX12_feed 72 = .ok (.aload_n 0, 1) := by decide +kernel
theorem dX12_feed_73 : decode cX12_feed 73 = .ok (.getfield 7, 3) := by decide +kernel
theorem dX12_feed_76 : decode cX12_feed 76 = .ok (.iconst 4, 1) := by decide +kernel
theorem dX12_feed_77 : decode cX12_feed 77 = .ok (.dup2, 1) := by decide +kernel
theorem dX12_feed_78 : decode cX12_feed 78 = .ok (.iaload, 1) := by decide +kernel
theorem dX12_feed_79 : decode cX12_feed 79 = .ok (.iconst 1, 1) := by decide +kernel
theorem dX12_feed_80 : decode cX12_feed 80 = .ok (.iadd, 1) := by decide +kernel
theorem dX12_feed_81 : decode cX12_feed 81 = .ok (.iastore, 1) := by decide +kernel
theorem dX12_feed_82 : decode cX12_feed 82 = .ok (.iinc 4 1, 3) := by decide +kernel
theorem dX12_feed_85 : decode cX12_feed 85 = .ok (.goto (-45), 3) := by decide +kernel
theorem dX12_feed_88 : decode cX12_feed 88 = .ok (.aload_n 0, 1) := by decide +kernel
theorem dX12_feed_89 : decode cX12_feed 89 = .ok (.getfield 7, 3) := by decide +kernel
theorem dX12_feed_92 : decode cX12_feed 92 = .ok (.iconst 4, 1) := by decide +kernel
theorem dX12_feed_93 : decode cX12_feed 93 = .ok (.iaload, 1) := by decide +kernel
theorem dX12_feed_94 : decode cX12_feed 94 = .ok (.ireturn, 1) := by decide +kernel
theorem dX12_text_0 : decode cX12_text 0 = .ok (.iload_n 1, 1) := by decide +kernel
theorem dX12_text_1 : decode cX12_text 1 = .ok (.iconst 0, 1) := by decide +kernel
theorem dX12_text_2 : decode cX12_text 2 = .ok (.iconst 1, 1) := by decide +kernel
theorem dX12_text_3 : decode cX12_text 3 = .ok (.invokestatic 41, 3) := by decide +kernel
theorem dX12_text_6 : decode cX12_text 6 = .ok (.ifCond .ne 10, 3) := by decide +kernel
theorem dX12_text_9 : decode cX12_text 9 = .ok (.aload_n 0, 1) := by decide +kernel
theorem dX12_text_10 : decode cX12_text 10 = .ok (.ldc 53, 2) := by decide +kernel
theorem dX12_text_12 : decode cX12_text 12 = .ok (.invokevirtual 54, 3) := by decide +kernel
theorem dX12_text_15 : decode cX12_text 15 = .ok (.ireturn, 1) := by decide +kernel
theorem dX12_text_16 : decode cX12_text 16 = .ok (.aload_n 0, 1) := by decide +kernel
theorem dX12_text_17 : decode cX12_text 17 = .ok (.aload_n 0, 1) := by decide +kernel
theorem dX12_text_18 : decode cX12_text 18 = .ok (.getfield 7, 3) := by decide +kernel
theorem dX12_text_21 : decode cX12_text 21 = .ok (.aload_n 0, 1) := by decide +kernel
theorem dX12_text_22 : decode cX12_text 22 = .ok (.getfield 19, 3) := by decide +kernel
theorem dX12_text_25 : decode cX12_text 25 = .ok (.invokevirtual 170, 3) := by decide +kernel
theorem dX12_text_28 : decode cX12_text 28 = .ok (.iconst 0, 1) := by decide +kernel
theorem dX12_text_29 : decode cX12_text 29 = .ok (.istore_n 2, 1) := by decide +kernel
theorem dX12_text_30 : decode cX12_text 30 = .ok (.iload_n 2, 1) := by decide +kernel
theorem dX12_text_31 : decode cX12_text 31 = .ok (.bipush 50, 2) := by decide +kernel
theorem dX12_text_33 : decode cX12_text 33 = .ok (.if_icmp .ge 33, 3) := by decide +kernel
theorem dX12_text_36 : decode cX12_text 36 = .ok (.aload_n 0, 1) := by decide +kernel
theorem dX12_text_37 : decode cX12_text 37 = .ok (.getfield 7, 3) := by decide +kernel
theorem dX12_text_40 : decode cX12_text 40 = .ok (.sipush 144, 3) := by decide +kernel
theorem dX12_text_43 : decode cX12_text 43 = .ok (.bipush 50, 2) := by decide +kernel
theorem dX12_text_45 : decode cX12_text 45 = .ok (.iload_n 1, 1) := by decide +kernel
theorem dX12_text_46 : decode cX12_text 46 = .ok (.imul, 1) := by decide +kernel
theorem dX12_text_47 : decode cX12_text 47 = .ok (.iadd, 1) := by decide +kernel
theorem dX12_text_48 : decode cX12_text 48 = .ok (.iload_n 2, 1) := by decide +kernel
theorem dX12_text_49 : decode cX12_text 49 = .ok (.iadd, 1) := by decide +kernel
theorem dX12_text_50 : decode cX12_text 50 = .ok (.aload_n 0, 1) := by decide +kernel
theorem dX12_text_51 : decode cX12_text 51 = .ok (.getfield 7, 3) := by decide +kernel
theorem dX12_text_54 : decode cX12_text 54 = .ok (.bipush 74, 2) := by decide +kernel
theorem dX12_text_56 : decode cX12_text 56 = .ok (.iload_n 2, 1) := by decide +kernel
theorem dX12_text_57 : decode cX12_text 57 = .ok (.iadd, 1) := by decide +kernel
theorem dX12_text_58 : decode cX12_text 58 = .ok (.iaload, 1) := by decide +kernel
theorem dX12_text_59 : decode cX12_text 59 = .ok (.iastore, 1) := by decide +kernel
theorem dX12_text_60 : decode cX12_text 60 = .ok (.iinc 2 1, 3) := by decide +kernel
theorem dX12_text_63 : decode cX12_text 63 = .ok (.goto (-33), 3) := by decide +kernel
theorem dX12_text_66 : decode cX12_text 66 = .ok (.aload_n 0, 1) := by decide +kernel
theorem dX12_text_67 : decode cX12_text 67 = .ok (.getfield 7, 3) := by decide +kernel
theorem dX12_text_70 : decode cX12_text 70 = .ok (.bipush 6, 2) := by decide +kernel
theorem dX12_text_72 : decode cX12_text 72 = .ok (.iload_n 1, 1) := by decide +kernel
theorem dX12_text_73 : decode cX12_text 73 = .ok (.iadd, 1) := by decide +kernel
theorem dX12_text_74 : decode cX12_text 74 = .ok (.aload_n 0, 1) := by decide +kernel
theorem dX12_text_75 : decode cX12_text 75 = .ok (.getfield 7, 3) := by decide +kernel
theorem dX12_text_78 : decode cX12_text 78 = .ok (.iconst 4, 1) := by decide +kernel
theorem dX12_text_79 : decode cX12_text 79 = .ok (.iaload, 1) := by decide +kernel
theorem dX12_text_80 : decode cX12_text 80 = .ok (.iastore, 1) := by decide +kernel
theorem dX12_text_81 : decode cX12_text 81 = .ok (.aload_n 0, 1) := by decide +kernel
theorem dX12_text_82 : decode cX12_text 82 = .ok (.iload_n 1, 1) := by decide +kernel
theorem dX12_text_83 : decode cX12_text 83 = .ok (.iconst 1, 1) := by decide +kernel
theorem dX12_text_84 : decode cX12_text 84 = .ok (.iconst 1, 1) := by decide +kernel
theorem dX12_text_85 : decode cX12_text 85 = .ok (.iconst 1, 1) := by decide +kernel
theorem dX12_text_86 : decode cX12_text 86 = .ok (.invokevirtual 157, 3) := by decide +kernel
theorem dX12_text_89 : decode cX12_text 89 = .ok (.istore_n 2, 1) := by decide +kernel
theorem dX12_text_90 : decode cX12_text 90 = .ok (.aload_n 0, 1) := by decide +kernel
theorem dX12_text_91 : decode cX12_text 91 = .ok (.getfield 104, 3) := by decide +kernel
theorem dX12_text_94 : decode cX12_text 94 = .ok (.ifCond .eq 12, 3) := by decide +kernel
theorem dX12_text_97 : decode cX12_text 97 = .ok (.iload_n 2, 1) := by decide +kernel
theorem dX12_text_98 : decode cX12_text 98 = .ok (.iload_n 2, 1) := by decide +kernel
theorem dX12_text_99 : decode cX12_text 99 = .ok (.if_icmp .ne 7, 3) := by decide +kernel
theorem dX12_text_102 : decode cX12_text 102 = .ok (.iconst 1, 1) := by decide +kernel
theorem dX12_text_103 : decode cX12_text 103 = .ok (.goto 4, 3) := by decide +kernel
theorem dX12_text_106 : decode cX12_text 106 = .ok (.iconst 0, 1) := by decide +kernel
theorem dX12_text_107 : decode cX12_text 107 = .ok (.istore_n 3, 1) := by decide +kernel
theorem dX12_text_108 : decode cX12_text 108 = .ok (.aload_n 0, 1) := by decide +kernel
theorem dX12_text_109 : decode cX12_text 109 = .ok (.getfield 108, 3) := by decide +kernel
theorem dX12_text_112 : decode cX12_text 112 = .ok (.istore 4, 2) := by decide +kernel
theorem dX12_text_114 : decode cX12_text 114 = .ok (.iload_n 3, 1) := by decide +kernel
theorem dX12_text_115 : decode cX12_text 115 = .ok (.ifCond .ne 15, 3) := by decide +kernel
theorem dX12_text_118 : decode cX12_text 118 = .ok (.aload_n 0, 1) := by decide +kernel
theorem dX12_text_119 : decode cX12_text 119 = .ok (.aload_n 0, 1) := by decide +kernel
theorem dX12_text_120 : decode cX12_text 120 = .ok (.getfield 19, 3) := by decide +kernel
theorem dX12_text_123 : decode cX12_text 123 = .ok (.aload_n 0, 1) := by decide +kernel
theorem dX12_text_124 : decode cX12_text 124 = .ok (.getfield 7, 3) := by decide +kernel
theorem dX12_text_127 : decode cX12_text 127 = .ok (.invokevirtual 170, 3) := by decide +kernel
theorem dX12_text_130 : decode cX12_text 130 = .ok (.aload_n 0, 1) := by decide +kernel
theorem dX12_text_131 : decode cX12_text 131 = .ok (.getfield 7, 3) := by decide +kernel
theorem dX12_text_134 : decode cX12_text 134 = .ok (.iconst 4, 1) := by decide +kernel
theorem dX12_text_135 : decode cX12_text 135 = .ok (.iconst 0, 1) := by decide +kernel
theorem dX12_text_136 : decode cX12_text 136 = .ok (.iastore, 1) := by decide +kernel
theorem dX12_text_137 : decode cX12_text 137 = .ok (.iload_n 3, 1) := by decide +kernel
theorem dX12_text_138 : decode cX12_text 138 = .ok (.ifCond .eq 7, 3) := by decide +kernel
theorem dX12_text_141 : decode cX12_text 141 = .ok (.iconst 1, 1) := by decide +kernel
theorem dX12_text_142 : decode cX12_text 142 = .ok (.goto 8, 3) := by decide +kernel
theorem dX12_text_145 : decode cX12_text 145 = .ok (.bipush (-10), 2) := by decide +kernel
theorem dX12_text_147 : decode cX12_text 147 = .ok (.iload 4, 2) := by decide +kernel
theorem dX12_text_149 : decode cX12_text 149 = .ok (.isub, 1) := by decide +kernel
theorem dX12_text_150 : decode cX12_text 150 = .ok (.ireturn, 1) := by decide +kernel
theorem dX12_shows_0 : decode cX12_shows 0 = .ok (.aload_n 0, 1) := by decide +kernel
theorem dX12_shows_1 : decode cX12_shows 1 = .ok (.iload_n 1, 1) := by decide +kernel
theorem dX12_shows_2 : decode cX12_shows 2 = .ok (.iconst 1, 1) := by decide +kernel
theorem dX12_shows_3 : decode cX12_shows 3 = .ok (.invokevirtual 69, 3) := by decide +kernel
theorem dX12_shows_6 : decode cX12_shows 6 = .ok (.istore_n 2, 1) := by decide +kernel
theorem dX12_shows_7 : decode cX12_shows 7 = .ok (.aload_n 0, 1) := by decide +kernel
theorem dX12_shows_8 : decode cX12_shows 8 = .ok (.iconst 0, 1) := by decide +kernel
theorem dX12_shows_9 : decode cX12_shows 9 = .ok (.aload_n 0, 1) := by decide +kernel
theorem dX12_shows_10 : decode cX12_shows 10 = .ok (.iload_n 1, 1) := by decide +kernel
theorem dX12_shows_11 : decode cX12_shows 11 = .ok (.iconst 2, 1) := by decide +kernel
theorem dX12_shows_12 : decode cX12_shows 12 = .ok (.invokevirtual 69, 3) := by decide +kernel
theorem dX12_shows_15 : decode cX12_shows 15 = .ok (.aload_n 0, 1) := by decide +kernel
theorem dX12_shows_16 : decode cX12_shows 16 = .ok (.getfield 7, 3) := by decide +kernel
theorem dX12_shows_19 : decode cX12_shows 19 = .ok (.iconst 0, 1) := by decide +kernel
theorem dX12_shows_20 : decode cX12_shows 20 = .ok (.iaload, 1) := by decide +kernel
theorem dX12_shows_21 : decode cX12_shows 21 = .ok (.bipush 12, 2) := by decide +kernel
theorem dX12_shows_23 : decode cX12_shows 23 = .ok (.irem, 1) := by decide +kernel
theorem dX12_shows_24 : decode cX12_shows 24 = .ok (.iload_n 2, 1) := by decide +kernel
theorem dX12_shows_25 : decode cX12_shows 25 = .ok (.invokevirtual 165, 3) := by decide +kernel
theorem dX12_shows_28 : decode cX12_shows 28 = .ok (.istore_n 3, 1) := by decide +kernel
theorem dX12_shows_29 : decode cX12_shows 29 = .ok (.aload_n 0, 1) := by decide +kernel
theorem dX12_shows_30 : decode cX12_shows 30 = .ok (.iload_n 1, 1) := by decide +kernel
theorem dX12_shows_31 : decode cX12_shows 31 = .ok (.iconst 0, 1) := by decide +kernel
theorem dX12_shows_32 : decode cX12_shows 32 = .ok (.invokevirtual 69, 3) := by decide +kernel
theorem dX12_shows_35 : decode cX12_shows 35 = .ok (.tableswitch 122 1 6 #[37, 60, 96, 44, 68, 103], 37) := by decide +kernel
theorem dX12_shows_72 : decode cX12_shows 72 = .ok (.iload_n 3, 1) := by decide +kernel
theorem dX12_shows_73 : decode cX12_shows 73 = .ok (.iload_n 2, 1) := by decide +kernel
theorem dX12_shows_74 : decode cX12_shows 74 = .ok (.iadd, 1) := by decide +kernel
theorem dX12_shows_75 : decode cX12_shows 75 = .ok (.bipush 10, 2) := by decide +kernel
theorem dX12_shows_77 : decode cX12_shows 77 = .ok (.irem, 1) := by decide +kernel
theorem dX12_shows_78 : decode cX12_shows 78 = .ok (.ireturn, 1) := by decide +kernel
theorem dX12_shows_79 : decode cX12_shows 79 = .ok (.iload_n 3, 1) := by decide +kernel
theorem dX12_shows_80 : decode cX12_shows 80 = .ok (.iload_n 2, 1) := by decide +kernel
theorem dX12_shows_81 : decode cX12_shows 81 = .ok (.iadd, 1) := by decide +kernel
theorem dX12_shows_82 : decode cX12_shows 82 = .ok (.aload_n 0, 1) := by decide +kernel
theorem dX12_shows_83 : decode cX12_shows 83 = .ok (.iload_n 1, 1) := by decide +kernel
theorem dX12_shows_84 : decode cX12_shows 84 = .ok (.iconst 3, 1) := by decide +kernel
theorem dX12_shows_85 : decode cX12_shows 85 = .ok (.invokevirtual 69, 3) := by decide +kernel
theorem dX12_shows_88 : decode cX12_shows 88 = .ok (.iconst 3, 1) := by decide +kernel
theorem dX12_shows_89 : decode cX12_shows 89 = .ok (.irem, 1) := by decide +kernel
theorem dX12_shows_90 : decode cX12_shows 90 = .ok (.iadd, 1) := by decide +kernel
theorem dX12_shows_91 : decode cX12_shows 91 = .ok (.bipush 10, 2) := by decide +kernel
theorem dX12_shows_93 : decode cX12_shows 93 = .ok (.irem, 1) := by decide +kernel
theorem dX12_shows_94 : decode cX12_shows 94 = .ok (.ireturn, 1) := by decide +kernel
theorem dX12_shows_95 : decode cX12_shows 95 = .ok (.bipush 9, 2) := by decide +kernel
theorem dX12_shows_97 : decode cX12_shows 97 = .ok (.iload_n 3, 1) := by decide +kernel
theorem dX12_shows_98 : decode cX12_shows 98 = .ok (.bipush 10, 2) := by decide +kernel
theorem dX12_shows_100 : decode cX12_shows 100 = .ok (.irem, 1) := by decide +kernel
theorem dX12_shows_101 : decode cX12_shows 101 = .ok (.isub, 1) := by decide +kernel
theorem dX12_shows_102 : decode cX12_shows 102 = .ok (.ireturn, 1) := by decide +kernel
theorem dX12_shows_103 : decode cX12_shows 103 = .ok (.aload_n 0, 1) := by decide +kernel
theorem dX12_shows_104 : decode cX12_shows 104 = .ok (.getfield 7, 3) := by decide +kernel
theorem dX12_shows_107 : decode cX12_shows 107 = .ok (.iconst 0, 1) := by decide +kernel
theorem dX12_shows_108 : decode cX12_shows 108 = .ok (.iaload, 1) := by decide +kernel
theorem dX12_shows_109 : decode cX12_shows 109 = .ok (.iconst 4, 1) := by decide +kernel
theorem dX12_shows_110 : decode cX12_shows 110 = .ok (.irem, 1) := by decide +kernel
theorem dX12_shows_111 : decode cX12_shows 111 = .ok (.ifCond .ne 12, 3) := by decide +kernel
theorem dX12_shows_114 : decode cX12_shows 114 = .ok (.aload_n 0, 1) := by decide +kernel
theorem dX12_shows_115 : decode cX12_shows 115 = .ok (.iload_n 1, 1) := by decide +kernel
theorem dX12_shows_116 : decode cX12_shows 116 = .ok (.iconst 2, 1) := by decide +kernel
theorem dX12_shows_117 : decode cX12_shows 117 = .ok (.invokevirtual 69, 3) := by decide +kernel
theorem dX12_shows_120 : decode cX12_shows 120 = .ok (.goto 10, 3) := by decide +kernel
theorem dX12_shows_123 : decode cX12_shows 123 = .ok (.bipush 9, 2) := by decide +kernel
theorem dX12_shows_125 : decode cX12_shows 125 = .ok (.iload_n 3, 1) := by decide +kernel
theorem dX12_shows_126 : decode cX12_shows 126 = .ok (.bipush 10, 2) := by decide +kernel
theorem dX12_shows_128 : decode cX12_shows 128 = .ok (.irem, 1) := by decide +kernel
theorem dX12_shows_129 : decode cX12_shows 129 = .ok (.isub, 1) := by decide +kernel
theorem dX12_shows_130 : decode cX12_shows 130 = .ok (.ireturn, 1) := by decide +kernel
theorem dX12_shows_131 : decode cX12_shows 131 = .ok (.aload_n 0, 1) := by decide +kernel
theorem dX12_shows_132 : decode cX12_shows 132 = .ok (.iload_n 1, 1) := by decide +kernel
theorem dX12_shows_133 : decode cX12_shows 133 = .ok (.iconst 2, 1) := by decide +kernel
theorem dX12_shows_134 : decode cX12_shows 134 = .ok (.invokevirtual 69, 3) := by decide +kernel
theorem dX12_shows_137 : decode cX12_shows 137 = .ok (.ireturn, 1) := by decide +kernel
theorem dX12_shows_138 : decode cX12_shows 138 = .ok (.aload_n 0, 1) := by decide +kernel
theorem dX12_shows_139 : decode cX12_shows 139 = .ok (.iload_n 1, 1) := by decide +kernel
theorem dX12_shows_140 : decode cX12_shows 140 = .ok (.iconst 2, 1) := by decide +kernel
theorem dX12_shows_141 : decode cX12_shows 141 = .ok (.invokevirtual 69, 3) := by decide +kernel
theorem dX12_shows_144 : decode cX12_shows 144 = .ok (.aload_n 0, 1) := by decide +kernel
theorem dX12_shows_145 : decode cX12_shows 145 = .ok (.getfield 7, 3) := by decide +kernel
theorem dX12_shows_148 : decode cX12_shows 148 = .ok (.iconst 0, 1) := by decide +kernel
theorem dX12_shows_149 : decode cX12_shows 149 = .ok (.iaload, 1) := by decide +kernel
theorem dX12_shows_150 : decode cX12_shows 150 = .ok (.iconst 2, 1) := by decide +kernel
theorem dX12_shows_151 : decode cX12_shows 151 = .ok (.irem, 1) := by decide +kernel
theorem dX12_shows_152 : decode cX12_shows 152 = .ok (.iadd, 1) := by decide +kernel
theorem dX12_shows_153 : decode cX12_shows 153 = .ok (.bipush 10, 2) := by decide +kernel
theorem dX12_shows_155 : decode cX12_shows 155 = .ok (.irem, 1) := by decide +kernel
theorem dX12_shows_156 : decode cX12_shows 156 = .ok (.ireturn, 1) := by decide +kernel
theorem dX12_shows_157 : decode cX12_shows 157 = .ok (.iload_n 3, 1) := by decide +kernel
theorem dX12_shows_158 : decode cX12_shows 158 = .ok (.bipush 10, 2) := by decide +kernel
theorem dX12_shows_160 : decode cX12_shows 160 = .ok (.irem, 1) := by decide +kernel
theorem dX12_shows_161 : decode cX12_shows 161 = .ok (.ireturn, 1) := by decide +kernel
theorem dX12_heavy_0 : decode cX12_heavy 0 = .ok (.aload_n 0, 1) := by decide +kernel
theorem dX12_heavy_1 : decode cX12_heavy 1 = .ok (.iload_n 1, 1) := by decide +kernel
theorem dX12_heavy_2 : decode cX12_heavy 2 = .ok (.iconst 0, 1) := by decide +kernel
theorem dX12_heavy_3 : decode cX12_heavy 3 = .ok (.invokevirtual 69, 3) := by decide +kernel
theorem dX12_heavy_6 : decode cX12_heavy 6 = .ok (.tableswitch 51 2 5 #[30, 51, 49, 32], 30) := by decide +kernel
theorem dX12_heavy_36 : decode cX12_heavy 36 = .ok (.iconst 2, 1) := by decide +kernel
theorem dX12_heavy_37 : decode cX12_heavy 37 = .ok (.ireturn, 1) := by decide +kernel
theorem dX12_heavy_38 : decode cX12_heavy 38 = .ok (.aload_n 0, 1) := by decide +kernel
theorem dX12_heavy_39 : decode cX12_heavy 39 = .ok (.getfield 7, 3) := by decide +kernel
theorem dX12_heavy_42 : decode cX12_heavy 42 = .ok (.iconst 0, 1) := by decide +kernel
theorem dX12_heavy_43 : decode cX12_heavy 43 = .ok (.iaload, 1) := by decide +kernel
theorem dX12_heavy_44 : decode cX12_heavy 44 = .ok (.iconst 4, 1) := by decide +kernel
theorem dX12_heavy_45 : decode cX12_heavy 45 = .ok (.irem, 1) := by decide +kernel
theorem dX12_heavy_46 : decode cX12_heavy 46 = .ok (.ifCond .ne 7, 3) := by decide +kernel
theorem dX12_heavy_49 : decode cX12_heavy 49 = .ok (.iconst 0, 1) := by decide +kernel
theorem dX12_heavy_50 : decode cX12_heavy 50 = .ok (.goto 4, 3) := by decide +kernel
theorem dX12_heavy_53 : decode cX12_heavy 53 = .ok (.iconst 2, 1) := by decide +kernel
theorem dX12_heavy_54 : decode cX12_heavy 54 = .ok (.ireturn, 1) := by decide +kernel
theorem dX12_heavy_55 : decode cX12_heavy 55 = .ok (.iconst 0, 1) := by decide +kernel
theorem dX12_heavy_56 : decode cX12_heavy 56 = .ok (.ireturn, 1) := by decide +kernel
theorem dX12_heavy_57 : decode cX12_heavy 57 = .ok (.iconst 1, 1) := by decide +kernel
theorem dX12_heavy_58 : decode cX12_heavy 58 = .ok (.ireturn, 1) := by decide +kernel
theorem dX12_heeded_0 : decode cX12_heeded 0 = .ok (.aload_n 0, 1) := by decide +kernel
theorem dX12_heeded_1 : decode cX12_heeded 1 = .ok (.iload_n 1, 1) := by decide +kernel
theorem dX12_heeded_2 : decode cX12_heeded 2 = .ok (.iconst 0, 1) := by decide +kernel
theorem dX12_heeded_3 : decode cX12_heeded 3 = .ok (.invokevirtual 63, 3) := by decide +kernel
theorem dX12_heeded_6 : decode cX12_heeded 6 = .ok (.istore_n 2, 1) := by decide +kernel
theorem dX12_heeded_7 : decode cX12_heeded 7 = .ok (.aload_n 0, 1) := by decide +kernel
theorem dX12_heeded_8 : decode cX12_heeded 8 = .ok (.iload_n 1, 1) := by decide +kernel
theorem dX12_heeded_9 : decode cX12_heeded 9 = .ok (.iconst 1, 1) := by decide +kernel
theorem dX12_heeded_10 : decode cX12_heeded 10 = .ok (.invokevirtual 63, 3) := by decide +kernel
theorem dX12_heeded_13 : decode cX12_heeded 13 = .ok (.istore_n 3, 1) := by decide +kernel
theorem dX12_heeded_14 : decode cX12_heeded 14 = .ok (.iload_n 2, 1) := by decide +kernel
theorem dX12_heeded_15 : decode cX12_heeded 15 = .ok (.ifCond .lt 7, 3) := by decide +kernel
theorem dX12_heeded_18 : decode cX12_heeded 18 = .ok (.iload_n 3, 1) := by decide +kernel
theorem dX12_heeded_19 : decode cX12_heeded 19 = .ok (.ifCond .ge 13, 3) := by decide +kernel
theorem dX12_heeded_22 : decode cX12_heeded 22 = .ok (.iload_n 2, 1) := by decide +kernel
theorem dX12_heeded_23 : decode cX12_heeded 23 = .ok (.ifCond .ge 7, 3) := by decide +kernel
theorem dX12_heeded_26 : decode cX12_heeded 26 = .ok (.iload_n 3, 1) := by decide +kernel
theorem dX12_heeded_27 : decode cX12_heeded 27 = .ok (.goto 4, 3) := by decide +kernel
theorem dX12_heeded_30 : decode cX12_heeded 30 = .ok (.iload_n 2, 1) := by decide +kernel
theorem dX12_heeded_31 : decode cX12_heeded 31 = .ok (.ireturn, 1) := by decide +kernel
theorem dX12_heeded_32 : decode cX12_heeded 32 = .ok (.aload_n 0, 1) := by decide +kernel
theorem dX12_heeded_33 : decode cX12_heeded 33 = .ok (.iconst 1, 1) := by decide +kernel
theorem dX12_heeded_34 : decode cX12_heeded 34 = .ok (.aload_n 0, 1) := by decide +kernel
theorem dX12_heeded_35 : decode cX12_heeded 35 = .ok (.iload_n 2, 1) := by decide +kernel
theorem dX12_heeded_36 : decode cX12_heeded 36 = .ok (.invokevirtual 75, 3) := by decide +kernel
theorem dX12_heeded_39 : decode cX12_heeded 39 = .ok (.aload_n 0, 1) := by decide +kernel
theorem dX12_heeded_40 : decode cX12_heeded 40 = .ok (.iload_n 3, 1) := by decide +kernel
theorem dX12_heeded_41 : decode cX12_heeded 41 = .ok (.invokevirtual 75, 3) := by decide +kernel
theorem dX12_heeded_44 : decode cX12_heeded 44 = .ok (.aload_n 0, 1) := by decide +kernel
theorem dX12_heeded_45 : decode cX12_heeded 45 = .ok (.getfield 7, 3) := by decide +kernel
theorem dX12_heeded_48 : decode cX12_heeded 48 = .ok (.iconst 0, 1) := by decide +kernel
theorem dX12_heeded_49 : decode cX12_heeded 49 = .ok (.iaload, 1) := by decide +kernel
theorem dX12_heeded_50 : decode cX12_heeded 50 = .ok (.bipush 12, 2) := by decide +kernel
theorem dX12_heeded_52 : decode cX12_heeded 52 = .ok (.irem, 1) := by decide +kernel
theorem dX12_heeded_53 : decode cX12_heeded 53 = .ok (.invokevirtual 165, 3) := by decide +kernel
theorem dX12_heeded_56 : decode cX12_heeded 56 = .ok (.ifCond .eq 7, 3) := by decide +kernel
theorem dX12_heeded_59 : decode cX12_heeded 59 = .ok (.iload_n 3, 1) := by decide +kernel
theorem dX12_heeded_60 : decode cX12_heeded 60 = .ok (.goto 4, 3) := by decide +kernel
theorem dX12_heeded_63 : decode cX12_heeded 63 = .ok (.iload_n 2, 1) := by decide +kernel
theorem dX12_heeded_64 : decode cX12_heeded 64 = .ok (.ireturn, 1) := by decide +kernel
theorem dX12_wears_0 : decode cX12_wears 0 = .ok (.iload_n 1, 1) := by decide +kernel
theorem dX12_wears_1 : decode cX12_wears 1 = .ok (.ifCond .lt 24, 3) := by decide +kernel
theorem dX12_wears_4 : decode cX12_wears 4 = .ok (.aload_n 0, 1) := by decide +kernel
theorem dX12_wears_5 : decode cX12_wears 5 = .ok (.iload_n 1, 1) := by decide +kernel
theorem dX12_wears_6 : decode cX12_wears 6 = .ok (.iconst 3, 1) := by decide +kernel
theorem dX12_wears_7 : decode cX12_wears 7 = .ok (.aload_n 0, 1) := by decide +kernel
theorem dX12_wears_8 : decode cX12_wears 8 = .ok (.iload_n 1, 1) := by decide +kernel
theorem dX12_wears_9 : decode cX12_wears 9 = .ok (.iconst 3, 1) := by decide +kernel
theorem dX12_wears_10 : decode cX12_wears 10 = .ok (.invokevirtual 69, 3) := by decide +kernel
theorem dX12_wears_13 : decode cX12_wears 13 = .ok (.iconst 1, 1) := by decide +kernel
theorem dX12_wears_14 : decode cX12_wears 14 = .ok (.iadd, 1) := by decide +kernel
theorem dX12_wears_15 : decode cX12_wears 15 = .ok (.iconst 0, 1) := by decide +kernel
theorem dX12_wears_16 : decode cX12_wears 16 = .ok (.sipush 9999, 3) := by decide +kernel
theorem dX12_wears_19 : decode cX12_wears 19 = .ok (.invokestatic 161, 3) := by decide +kernel
theorem dX12_wears_22 : decode cX12_wears 22 = .ok (.invokevirtual 59, 3) := by decide +kernel
theorem dX12_wears_25 : decode cX12_wears 25 = .ok (.return_, 1) := by decide +kernel
theorem dX12_looksOn_0 : decode cX12_looksOn 0 = .ok (.aload_n 0, 1) := by decide +kernel
theorem dX12_looksOn_1 : decode cX12_looksOn 1 = .ok (.iload_n 2, 1) := by decide +kernel
theorem dX12_looksOn_2 : decode cX12_looksOn 2 = .ok (.invokevirtual 75, 3) := by decide +kernel
theorem dX12_looksOn_5 : decode cX12_looksOn 5 = .ok (.istore_n 3, 1) := by decide +kernel
theorem dX12_looksOn_6 : decode cX12_looksOn 6 = .ok (.aload_n 0, 1) := by decide +kernel
theorem dX12_looksOn_7 : decode cX12_looksOn 7 = .ok (.iload_n 2, 1) := by decide +kernel
theorem dX12_looksOn_8 : decode cX12_looksOn 8 = .ok (.invokevirtual 78, 3) := by decide +kernel
theorem dX12_looksOn_11 : decode cX12_looksOn 11 = .ok (.aload_n 0, 1) := by decide +kernel
theorem dX12_looksOn_12 : decode cX12_looksOn 12 = .ok (.getfield 7, 3) := by decide +kernel
theorem dX12_looksOn_15 : decode cX12_looksOn 15 = .ok (.bipush 8, 2) := by decide +kernel
theorem dX12_looksOn_17 : decode cX12_looksOn 17 = .ok (.iload_n 3, 1) := by decide +kernel
theorem dX12_looksOn_18 : decode cX12_looksOn 18 = .ok (.iadd, 1) := by decide +kernel
theorem dX12_looksOn_19 : decode cX12_looksOn 19 = .ok (.iaload, 1) := by decide +kernel
theorem dX12_looksOn_20 : decode cX12_looksOn 20 = .ok (.imul, 1) := by decide +kernel
theorem dX12_looksOn_21 : decode cX12_looksOn 21 = .ok (.istore 4, 2) := by decide +kernel
theorem dX12_looksOn_23 : decode cX12_looksOn 23 = .ok (.aload_n 0, 1) := by decide +kernel
theorem dX12_looksOn_24 : decode cX12_looksOn 24 = .ok (.iload_n 1, 1) := by decide +kernel
theorem dX12_looksOn_25 : decode cX12_looksOn 25 = .ok (.iconst 2, 1) := by decide +kernel
theorem dX12_looksOn_26 : decode cX12_looksOn 26 = .ok (.invokevirtual 63, 3) := by decide +kernel
theorem dX12_looksOn_29 : decode cX12_looksOn 29 = .ok (.iload 4, 2) := by decide +kernel
theorem dX12_looksOn_31 : decode cX12_looksOn 31 = .ok (.if_icmp .le 15, 3) := by decide +kernel
theorem dX12_looksOn_34 : decode cX12_looksOn 34 = .ok (.aload_n 0, 1) := by decide +kernel
theorem dX12_looksOn_35 : decode cX12_looksOn 35 = .ok (.iload_n 1, 1) := by decide +kernel
theorem dX12_looksOn_36 : decode cX12_looksOn 36 = .ok (.iconst 2, 1) := by decide +kernel
theorem dX12_looksOn_37 : decode cX12_looksOn 37 = .ok (.invokevirtual 63, 3) := by decide +kernel
theorem dX12_looksOn_40 : decode cX12_looksOn 40 = .ok (.iload 4, 2) := by decide +kernel
theorem dX12_looksOn_42 : decode cX12_looksOn 42 = .ok (.isub, 1) := by decide +kernel
theorem dX12_looksOn_43 : decode cX12_looksOn 43 = .ok (.goto 4, 3) := by decide +kernel
theorem dX12_looksOn_46 : decode cX12_looksOn 46 = .ok (.iconst 0, 1) := by decide +kernel
theorem dX12_looksOn_47 : decode cX12_looksOn 47 = .ok (.istore 5, 2) := by decide +kernel
theorem dX12_looksOn_49 : decode cX12_looksOn 49 = .ok (.aload_n 0, 1) := by decide +kernel
theorem dX12_looksOn_50 : decode cX12_looksOn 50 = .ok (.dup, 1) := by decide +kernel
theorem dX12_looksOn_51 : decode cX12_looksOn 51 = .ok (.getfield 174, 3) := by decide +kernel
theorem dX12_looksOn_54 : decode cX12_looksOn 54 = .ok (.aload_n 0, 1) := by decide +kernel
theorem dX12_looksOn_55 : decode cX12_looksOn 55 = .ok (.iload_n 1, 1) := by decide +kernel
theorem dX12_looksOn_56 : decode cX12_looksOn 56 = .ok (.iconst 2, 1) := by decide +kernel
theorem dX12_looksOn_57 : decode cX12_looksOn 57 = .ok (.invokevirtual 63, 3) := by decide +kernel
theorem dX12_looksOn_60 : decode cX12_looksOn 60 = .ok (.iload 5, 2) := by decide +kernel
theorem dX12_looksOn_62 : decode cX12_looksOn 62 = .ok (.isub, 1) := by decide +kernel
theorem dX12_looksOn_63 : decode cX12_looksOn 63 = .ok (.iadd, 1) := by decide +kernel
theorem dX12_looksOn_64 : decode cX12_looksOn 64 = .ok (.putfield 174, 3) := by decide +kernel
theorem dX12_looksOn_67 : decode cX12_looksOn 67 = .ok (.aload_n 0, 1) := by decide +kernel
theorem dX12_looksOn_68 : decode cX12_looksOn 68 = .ok (.iload_n 1, 1) := by decide +kernel
theorem dX12_looksOn_69 : decode cX12_looksOn 69 = .ok (.iconst 3, 1) := by decide +kernel
theorem dX12_looksOn_70 : decode cX12_looksOn 70 = .ok (.aload_n 0, 1) := by decide +kernel
theorem dX12_looksOn_71 : decode cX12_looksOn 71 = .ok (.iload_n 1, 1) := by decide +kernel
theorem dX12_looksOn_72 : decode cX12_looksOn 72 = .ok (.iconst 3, 1) := by decide +kernel
theorem dX12_looksOn_73 : decode cX12_looksOn 73 = .ok (.invokevirtual 63, 3) := by decide +kernel
theorem dX12_looksOn_76 : decode cX12_looksOn 76 = .ok (.iconst 1, 1) := by decide +kernel
theorem dX12_looksOn_77 : decode cX12_looksOn 77 = .ok (.iload_n 3, 1) := by decide +kernel
theorem dX12_looksOn_78 : decode cX12_looksOn 78 = .ok (.ishl, 1) := by decide +kernel
theorem dX12_looksOn_79 : decode cX12_looksOn 79 = .ok (.ior, 1) := by decide +kernel
theorem dX12_looksOn_80 : decode cX12_looksOn 80 = .ok (.invokevirtual 81, 3) := by decide +kernel
theorem dX12_looksOn_83 : decode cX12_looksOn 83 = .ok (.aload_n 0, 1) := by decide +kernel
theorem dX12_looksOn_84 : decode cX12_looksOn 84 = .ok (.iload_n 1, 1) := by decide +kernel
theorem dX12_looksOn_85 : decode cX12_looksOn 85 = .ok (.iconst 2, 1) := by decide +kernel
theorem dX12_looksOn_86 : decode cX12_looksOn 86 = .ok (.iload 5, 2) := by decide +kernel
theorem dX12_looksOn_88 : decode cX12_looksOn 88 = .ok (.invokevirtual 81, 3) := by decide +kernel
theorem dX12_looksOn_91 : decode cX12_looksOn 91 = .ok (.aload_n 0, 1) := by decide +kernel
theorem dX12_looksOn_92 : decode cX12_looksOn 92 = .ok (.aload_n 0, 1) := by decide +kernel
theorem dX12_looksOn_93 : decode cX12_looksOn 93 = .ok (.iload_n 1, 1) := by decide +kernel
theorem dX12_looksOn_94 : decode cX12_looksOn 94 = .ok (.iconst 0, 1) := by decide +kernel
theorem dX12_looksOn_95 : decode cX12_looksOn 95 = .ok (.invokevirtual 63, 3) := by decide +kernel
theorem dX12_looksOn_98 : decode cX12_looksOn 98 = .ok (.invokevirtual 177, 3) := by decide +kernel
theorem dX12_looksOn_101 : decode cX12_looksOn 101 = .ok (.aload_n 0, 1) := by decide +kernel
theorem dX12_looksOn_102 : decode cX12_looksOn 102 = .ok (.aload_n 0, 1) := by decide +kernel
theorem dX12_looksOn_103 : decode cX12_looksOn 103 = .ok (.iload_n 1, 1) := by decide +kernel
theorem dX12_looksOn_104 : decode cX12_looksOn 104 = .ok (.iconst 1, 1) := by decide +kernel
theorem dX12_looksOn_105 : decode cX12_looksOn 105 = .ok (.invokevirtual 63, 3) := by decide +kernel
theorem dX12_looksOn_108 : decode cX12_looksOn 108 = .ok (.invokevirtual 177, 3) := by decide +kernel
theorem dX12_looksOn_111 : decode cX12_looksOn 111 = .ok (.iload 5, 2) := by decide +kernel
theorem dX12_looksOn_113 : decode cX12_looksOn 113 = .ok (.ifCond .ne 44, 3) := by decide +kernel
theorem dX12_looksOn_116 : decode cX12_looksOn 116 = .ok (.aload_n 0, 1) := by decide +kernel
theorem dX12_looksOn_117 : decode cX12_looksOn 117 = .ok (.iload_n 1, 1) := by decide +kernel
theorem dX12_looksOn_118 : decode cX12_looksOn 118 = .ok (.aload_n 0, 1) := by decide +kernel
theorem dX12_looksOn_119 : decode cX12_looksOn 119 = .ok (.iload_n 1, 1) := by decide +kernel
theorem dX12_looksOn_120 : decode cX12_looksOn 120 = .ok (.iconst 0, 1) := by decide +kernel
theorem dX12_looksOn_121 : decode cX12_looksOn 121 = .ok (.invokevirtual 63, 3) := by decide +kernel
theorem dX12_looksOn_124 : decode cX12_looksOn 124 = .ok (.iload_n 2, 1) := by decide +kernel
theorem dX12_looksOn_125 : decode cX12_looksOn 125 = .ok (.if_icmp .ne 7, 3) := by decide +kernel
theorem dX12_looksOn_128 : decode cX12_looksOn 128 = .ok (.iconst 0, 1) := by decide +kernel
theorem dX12_looksOn_129 : decode cX12_looksOn 129 = .ok (.goto 4, 3) := by decide +kernel
theorem dX12_looksOn_132 : decode cX12_looksOn 132 = .ok (.iconst 1, 1) := by decide +kernel
theorem dX12_looksOn_133 : decode cX12_looksOn 133 = .ok (.iconst (-1), 1) := by decide +kernel
theorem dX12_looksOn_134 : decode cX12_looksOn 134 = .ok (.invokevirtual 81, 3) := by decide +kernel
theorem dX12_looksOn_137 : decode cX12_looksOn 137 = .ok (.aload_n 0, 1) := by decide +kernel
theorem dX12_looksOn_138 : decode cX12_looksOn 138 = .ok (.iload_n 1, 1) := by decide +kernel
theorem dX12_looksOn_139 : decode cX12_looksOn 139 = .ok (.iconst 2, 1) := by decide +kernel
theorem dX12_looksOn_140 : decode cX12_looksOn 140 = .ok (.bipush 20, 2) := by decide +kernel
theorem dX12_looksOn_142 : decode cX12_looksOn 142 = .ok (.invokevirtual 81, 3) := by decide +kernel
theorem dX12_looksOn_145 : decode cX12_looksOn 145 = .ok (.aload_n 0, 1) := by decide +kernel
theorem dX12_looksOn_146 : decode cX12_looksOn 146 = .ok (.dup, 1) := by decide +kernel
theorem dX12_looksOn_147 : decode cX12_looksOn 147 = .ok (.getfield 181, 3) := by decide +kernel
theorem dX12_looksOn_150 : decode cX12_looksOn 150 = .ok (.iconst 1, 1) := by decide +kernel
theorem dX12_looksOn_151 : decode cX12_looksOn 151 = .ok (.iload_n 1, 1) := by decide +kernel
theorem dX12_looksOn_152 : decode cX12_looksOn 152 = .ok (.ishl, 1) := by decide +kernel
theorem dX12_looksOn_153 : decode cX12_looksOn 153 = .ok (.ior, 1) := by decide +kernel
theorem dX12_looksOn_154 : decode cX12_looksOn 154 = .ok (.putfield 181, 3) := by decide +kernel
theorem dX12_looksOn_157 : decode cX12_looksOn 157 = .ok (.return_, 1) := by decide +kernel
theorem dX12_oneHour_0 : decode cX12_oneHour 0 = .ok (.aload_n 0, 1) := by decide +kernel
theorem dX12_oneHour_1 : decode cX12_oneHour 1 = .ok (.iconst 0, 1) := by decide +kernel
theorem dX12_oneHour_2 : decode cX12_oneHour 2 = .ok (.putfield 181, 3) := by decide +kernel
theorem dX12_oneHour_5 : decode cX12_oneHour 5 = .ok (.aload_n 0, 1) := by decide +kernel
theorem dX12_oneHour_6 : decode cX12_oneHour 6 = .ok (.iconst 0, 1) := by decide +kernel
theorem dX12_oneHour_7 : decode cX12_oneHour 7 = .ok (.putfield 174, 3) := by decide +kernel
theorem dX12_oneHour_10 : decode cX12_oneHour 10 = .ok (.iconst 0, 1) := by decide +kernel
theorem dX12_oneHour_11 : decode cX12_oneHour 11 = .ok (.istore_n 1, 1) := by decide +kernel
theorem dX12_oneHour_12 : decode cX12_oneHour 12 = .ok (.iload_n 1, 1) := by decide +kernel
theorem dX12_oneHour_13 : decode cX12_oneHour 13 = .ok (.aload_n 0, 1) := by decide +kernel
theorem dX12_oneHour_14 : decode cX12_oneHour 14 = .ok (.getfield 7, 3) := by decide +kernel
theorem dX12_oneHour_17 : decode cX12_oneHour 17 = .ok (.iconst 3, 1) := by decide +kernel
theorem dX12_oneHour_18 : decode cX12_oneHour 18 = .ok (.iaload, 1) := by decide +kernel
theorem dX12_oneHour_19 : decode cX12_oneHour 19 = .ok (.if_icmp .ge 48, 3) := by decide +kernel
theorem dX12_oneHour_22 : decode cX12_oneHour 22 = .ok (.aload_n 0, 1) := by decide +kernel
theorem dX12_oneHour_23 : decode cX12_oneHour 23 = .ok (.iload_n 1, 1) := by decide +kernel
theorem dX12_oneHour_24 : decode cX12_oneHour 24 = .ok (.invokevirtual 87, 3) := by decide +kernel
theorem dX12_oneHour_27 : decode cX12_oneHour 27 = .ok (.istore_n 2, 1) := by decide +kernel
theorem dX12_oneHour_28 : decode cX12_oneHour 28 = .ok (.iload_n 2, 1) := by decide +kernel
theorem dX12_oneHour_29 : decode cX12_oneHour 29 = .ok (.ifCond .ge 26, 3) := by decide +kernel
theorem dX12_oneHour_32 : decode cX12_oneHour 32 = .ok (.aload_n 0, 1) := by decide +kernel
theorem dX12_oneHour_33 : decode cX12_oneHour 33 = .ok (.iload_n 1, 1) := by decide +kernel
theorem dX12_oneHour_34 : decode cX12_oneHour 34 = .ok (.iconst 2, 1) := by decide +kernel
theorem dX12_oneHour_35 : decode cX12_oneHour 35 = .ok (.aload_n 0, 1) := by decide +kernel
theorem dX12_oneHour_36 : decode cX12_oneHour 36 = .ok (.iload_n 1, 1) := by decide +kernel
theorem dX12_oneHour_37 : decode cX12_oneHour 37 = .ok (.iconst 2, 1) := by decide +kernel
theorem dX12_oneHour_38 : decode cX12_oneHour 38 = .ok (.invokevirtual 63, 3) := by decide +kernel
theorem dX12_oneHour_41 : decode cX12_oneHour 41 = .ok (.iconst 1, 1) := by decide +kernel
theorem dX12_oneHour_42 : decode cX12_oneHour 42 = .ok (.iadd, 1) := by decide +kernel
theorem dX12_oneHour_43 : decode cX12_oneHour 43 = .ok (.iconst 0, 1) := by decide +kernel
theorem dX12_oneHour_44 : decode cX12_oneHour 44 = .ok (.bipush 99, 2) := by decide +kernel
theorem dX12_oneHour_46 : decode cX12_oneHour 46 = .ok (.invokestatic 161, 3) := by decide +kernel
theorem dX12_oneHour_49 : decode cX12_oneHour 49 = .ok (.invokevirtual 81, 3) := by decide +kernel
theorem dX12_oneHour_52 : decode cX12_oneHour 52 = .ok (.goto 9, 3) := by decide +kernel
theorem dX12_oneHour_55 : decode cX12_oneHour 55 = .ok (.aload_n 0, 1) := by decide +kernel
theorem dX12_oneHour_56 : decode cX12_oneHour 56 = .ok (.iload_n 1, 1) := by decide +kernel
theorem dX12_oneHour_57 : decode cX12_oneHour 57 = .ok (.iload_n 2, 1) := by decide +kernel
theorem dX12_oneHour_58 : decode cX12_oneHour 58 = .ok (.invokevirtual 184, 3) := by decide +kernel
theorem dX12_oneHour_61 : decode cX12_oneHour 61 = .ok (.iinc 1 1, 3) := by decide +kernel
theorem dX12_oneHour_64 : decode cX12_oneHour 64 = .ok (.goto (-52), 3) := by decide +kernel
theorem dX12_oneHour_67 : decode cX12_oneHour 67 = .ok (.aload_n 0, 1) := by decide +kernel
theorem dX12_oneHour_68 : decode cX12_oneHour 68 = .ok (.getfield 7, 3) := by decide +kernel
theorem dX12_oneHour_71 : decode cX12_oneHour 71 = .ok (.iconst 0, 1) := by decide +kernel
theorem dX12_oneHour_72 : decode cX12_oneHour 72 = .ok (.dup2, 1) := by decide +kernel
theorem dX12_oneHour_73 : decode cX12_oneHour 73 = .ok (.iaload, 1) := by decide +kernel
theorem dX12_oneHour_74 : decode cX12_oneHour 74 = .ok (.iconst 1, 1) := by decide +kernel
theorem dX12_oneHour_75 : decode cX12_oneHour 75 = .ok (.iadd, 1) := by decide +kernel
theorem dX12_oneHour_76 : decode cX12_oneHour 76 = .ok (.iastore, 1) := by decide +kernel
theorem dX12_oneHour_77 : decode cX12_oneHour 77 = .ok (.return_, 1) := by decide +kernel
theorem dX12_passes_0 : decode cX12_passes 0 = .ok (.iconst 0, 1) := by decide +kernel
theorem dX12_passes_1 : decode cX12_passes 1 = .ok (.istore_n 2, 1) := by decide +kernel
theorem dX12_passes_2 : decode cX12_passes 2 = .ok (.iconst 0, 1) := by decide +kernel
theorem dX12_passes_3 : decode cX12_passes 3 = .ok (.istore_n 3, 1) := by decide +kernel
theorem dX12_passes_4 : decode cX12_passes 4 = .ok (.iload_n 3, 1) := by decide +kernel
theorem dX12_passes_5 : decode cX12_passes 5 = .ok (.iload_n 1, 1) := by decide +kernel
theorem dX12_passes_6 : decode cX12_passes 6 = .ok (.if_icmp .ge 23, 3) := by decide +kernel
theorem dX12_passes_9 : decode cX12_passes 9 = .ok (.aload_n 0, 1) := by decide +kernel
theorem dX12_passes_10 : decode cX12_passes 10 = .ok (.invokevirtual 188, 3) := by decide +kernel
theorem dX12_passes_13 : decode cX12_passes 13 = .ok (.iload_n 2, 1) := by decide +kernel
theorem dX12_passes_14 : decode cX12_passes 14 = .ok (.aload_n 0, 1) := by decide +kernel
theorem dX12_passes_15 : decode cX12_passes 15 = .ok (.getfield 181, 3) := by decide +kernel
theorem dX12_passes_18 : decode cX12_passes 18 = .ok (.invokestatic 191, 3) := by decide +kernel
theorem dX12_passes_21 : decode cX12_passes 21 = .ok (.iadd, 1) := by decide +kernel
theorem dX12_passes_22 : decode cX12_passes 22 = .ok (.istore_n 2, 1) := by decide +kernel
theorem dX12_passes_23 : decode cX12_passes 23 = .ok (.iinc 3 1, 3) := by decide +kernel
theorem dX12_passes_26 : decode cX12_passes 26 = .ok (.goto (-22), 3) := by decide +kernel
theorem dX12_passes_29 : decode cX12_passes 29 = .ok (.iload_n 2, 1) := by decide +kernel
theorem dX12_passes_30 : decode cX12_passes 30 = .ok (.ireturn, 1) := by decide +kernel
theorem dX12_hours_0 : decode cX12_hours 0 = .ok (.iload_n 1, 1) := by decide +kernel
theorem dX12_hours_1 : decode cX12_hours 1 = .ok (.iconst 1, 1) := by decide +kernel
theorem dX12_hours_2 : decode cX12_hours 2 = .ok (.bipush 60, 2) := by decide +kernel
theorem dX12_hours_4 : decode cX12_hours 4 = .ok (.invokestatic 41, 3) := by decide +kernel
theorem dX12_hours_7 : decode cX12_hours 7 = .ok (.ifCond .ne 10, 3) := by decide +kernel
theorem dX12_hours_10 : decode cX12_hours 10 = .ok (.aload_n 0, 1) := by decide +kernel
theorem dX12_hours_11 : decode cX12_hours 11 = .ok (.ldc 53, 2) := by decide +kernel
theorem dX12_hours_13 : decode cX12_hours 13 = .ok (.invokevirtual 54, 3) := by decide +kernel
theorem dX12_hours_16 : decode cX12_hours 16 = .ok (.ireturn, 1) := by decide +kernel
theorem dX12_hours_17 : decode cX12_hours 17 = .ok (.aload_n 0, 1) := by decide +kernel
theorem dX12_hours_18 : decode cX12_hours 18 = .ok (.getfield 7, 3) := by decide +kernel
theorem dX12_hours_21 : decode cX12_hours 21 = .ok (.iconst 0, 1) := by decide +kernel
theorem dX12_hours_22 : decode cX12_hours 22 = .ok (.iaload, 1) := by decide +kernel
theorem dX12_hours_23 : decode cX12_hours 23 = .ok (.iload_n 1, 1) := by decide +kernel
theorem dX12_hours_24 : decode cX12_hours 24 = .ok (.iadd, 1) := by decide +kernel
theorem dX12_hours_25 : decode cX12_hours 25 = .ok (.sipush 9999, 3) := by decide +kernel
theorem dX12_hours_28 : decode cX12_hours 28 = .ok (.if_icmp .le 12, 3) := by decide +kernel
theorem dX12_hours_31 : decode cX12_hours 31 = .ok (.aload_n 0, 1) := by decide +kernel
theorem dX12_hours_32 : decode cX12_hours 32 = .ok (.ldc 194, 2) := by decide +kernel
theorem dX12_hours_34 : decode cX12_hours 34 = .ok (.invokevirtual 54, 3) := by decide +kernel
theorem dX12_hours_37 : decode cX12_hours 37 = .ok (.goto 8, 3) := by decide +kernel
theorem dX12_hours_40 : decode cX12_hours 40 = .ok (.aload_n 0, 1) := by decide +kernel
theorem dX12_hours_41 : decode cX12_hours 41 = .ok (.iload_n 1, 1) := by decide +kernel
theorem dX12_hours_42 : decode cX12_hours 42 = .ok (.invokevirtual 195, 3) := by decide +kernel
theorem dX12_hours_45 : decode cX12_hours 45 = .ok (.ireturn, 1) := by decide +kernel
theorem dX12_drawn_0 : decode cX12_drawn 0 = .ok (.aload_n 0, 1) := by decide +kernel
theorem dX12_drawn_1 : decode cX12_drawn 1 = .ok (.getfield 7, 3) := by decide +kernel
theorem dX12_drawn_4 : decode cX12_drawn 4 = .ok (.iconst 1, 1) := by decide +kernel
theorem dX12_drawn_5 : decode cX12_drawn 5 = .ok (.aload_n 0, 1) := by decide +kernel
theorem dX12_drawn_6 : decode cX12_drawn 6 = .ok (.getfield 7, 3) := by decide +kernel
theorem dX12_drawn_9 : decode cX12_drawn 9 = .ok (.iconst 1, 1) := by decide +kernel
theorem dX12_drawn_10 : decode cX12_drawn 10 = .ok (.iaload, 1) := by decide +kernel
theorem dX12_drawn_11 : decode cX12_drawn 11 = .ok (.ldc 198, 2) := by decide +kernel
theorem dX12_drawn_13 : decode cX12_drawn 13 = .ok (.imul, 1) := by decide +kernel
theorem dX12_drawn_14 : decode cX12_drawn 14 = .ok (.sipush 12345, 3) := by decide +kernel
theorem dX12_drawn_17 : decode cX12_drawn 17 = .ok (.iadd, 1) := by decide +kernel
theorem dX12_drawn_18 : decode cX12_drawn 18 = .ok (.iastore, 1) := by decide +kernel
theorem dX12_drawn_19 : decode cX12_drawn 19 = .ok (.aload_n 0, 1) := by decide +kernel
theorem dX12_drawn_20 : decode cX12_drawn 20 = .ok (.getfield 7, 3) := by decide +kernel
theorem dX12_drawn_23 : decode cX12_drawn 23 = .ok (.iconst 1, 1) := by decide +kernel
theorem dX12_drawn_24 : decode cX12_drawn 24 = .ok (.iaload, 1) := by decide +kernel
theorem dX12_drawn_25 : decode cX12_drawn 25 = .ok (.bipush 8, 2) := by decide +kernel
theorem dX12_drawn_27 : decode cX12_drawn 27 = .ok (.iushr, 1) := by decide +kernel
theorem dX12_drawn_28 : decode cX12_drawn 28 = .ok (.ireturn, 1) := by decide +kernel
theorem dX12_loose_0 : decode cX12_loose 0 = .ok (.iload_n 1, 1) := by decide +kernel
theorem dX12_loose_1 : decode cX12_loose 1 = .ok (.iconst 1, 1) := by decide +kernel
theorem dX12_loose_2 : decode cX12_loose 2 = .ok (.bipush 40, 2) := by decide +kernel
theorem dX12_loose_4 : decode cX12_loose 4 = .ok (.invokestatic 41, 3) := by decide +kernel
theorem dX12_loose_7 : decode cX12_loose 7 = .ok (.ifCond .ne 10, 3) := by decide +kernel
theorem dX12_loose_10 : decode cX12_loose 10 = .ok (.aload_n 0, 1) := by decide +kernel
theorem dX12_loose_11 : decode cX12_loose 11 = .ok (.ldc 53, 2) := by decide +kernel
theorem dX12_loose_13 : decode cX12_loose 13 = .ok (.invokevirtual 54, 3) := by decide +kernel
theorem dX12_loose_16 : decode cX12_loose 16 = .ok (.ireturn, 1) := by decide +kernel
theorem dX12_loose_17 : decode cX12_loose 17 = .ok (.aload_n 0, 1) := by decide +kernel
theorem dX12_loose_18 : decode cX12_loose 18 = .ok (.getfield 7, 3) := by decide +kernel
theorem dX12_loose_21 : decode cX12_loose 21 = .ok (.iconst 0, 1) := by decide +kernel
theorem dX12_loose_22 : decode cX12_loose 22 = .ok (.iaload, 1) := by decide +kernel
theorem dX12_loose_23 : decode cX12_loose 23 = .ok (.iload_n 1, 1) := by decide +kernel
theorem dX12_loose_24 : decode cX12_loose 24 = .ok (.iadd, 1) := by decide +kernel
theorem dX12_loose_25 : decode cX12_loose 25 = .ok (.sipush 9999, 3) := by decide +kernel
theorem dX12_loose_28 : decode cX12_loose 28 = .ok (.if_icmp .le 10, 3) := by decide +kernel
theorem dX12_loose_31 : decode cX12_loose 31 = .ok (.aload_n 0, 1) := by decide +kernel
theorem dX12_loose_32 : decode cX12_loose 32 = .ok (.ldc 194, 2) := by decide +kernel
theorem dX12_loose_34 : decode cX12_loose 34 = .ok (.invokevirtual 54, 3) := by decide +kernel
theorem dX12_loose_37 : decode cX12_loose 37 = .ok (.ireturn, 1) := by decide +kernel
theorem dX12_loose_38 : decode cX12_loose 38 = .ok (.iconst 0, 1) := by decide +kernel
theorem dX12_loose_39 : decode cX12_loose 39 = .ok (.istore_n 2, 1) := by decide +kernel
theorem dX12_loose_40 : decode cX12_loose 40 = .ok (.iconst 0, 1) := by decide +kernel
theorem dX12_loose_41 : decode cX12_loose 41 = .ok (.istore_n 3, 1) := by decide +kernel
theorem dX12_loose_42 : decode cX12_loose 42 = .ok (.iload_n 3, 1) := by decide +kernel
theorem dX12_loose_43 : decode cX12_loose 43 = .ok (.iload_n 1, 1) := by decide +kernel
theorem dX12_loose_44 : decode cX12_loose 44 = .ok (.if_icmp .ge 54, 3) := by decide +kernel
theorem dX12_loose_47 : decode cX12_loose 47 = .ok (.aload_n 0, 1) := by decide +kernel
theorem dX12_loose_48 : decode cX12_loose 48 = .ok (.invokevirtual 199, 3) := by decide +kernel
theorem dX12_loose_51 : decode cX12_loose 51 = .ok (.istore 4, 2) := by decide +kernel
theorem dX12_loose_53 : decode cX12_loose 53 = .ok (.aload_n 0, 1) := by decide +kernel
theorem dX12_loose_54 : decode cX12_loose 54 = .ok (.getfield 7, 3) := by decide +kernel
theorem dX12_loose_57 : decode cX12_loose 57 = .ok (.iconst 2, 1) := by decide +kernel
theorem dX12_loose_58 : decode cX12_loose 58 = .ok (.iaload, 1) := by decide +kernel
theorem dX12_loose_59 : decode cX12_loose 59 = .ok (.ifCond .le 25, 3) := by decide +kernel
theorem dX12_loose_62 : decode cX12_loose 62 = .ok (.aload_n 0, 1) := by decide +kernel
theorem dX12_loose_63 : decode cX12_loose 63 = .ok (.iload 4, 2) := by decide +kernel
theorem dX12_loose_65 : decode cX12_loose 65 = .ok (.aload_n 0, 1) := by decide +kernel
theorem dX12_loose_66 : decode cX12_loose 66 = .ok (.getfield 7, 3) := by decide +kernel
theorem dX12_loose_69 : decode cX12_loose 69 = .ok (.iconst 2, 1) := by decide +kernel
theorem dX12_loose_70 : decode cX12_loose 70 = .ok (.iaload, 1) := by decide +kernel
theorem dX12_loose_71 : decode cX12_loose 71 = .ok (.irem, 1) := by decide +kernel
theorem dX12_loose_72 : decode cX12_loose 72 = .ok (.iconst 2, 1) := by decide +kernel
theorem dX12_loose_73 : decode cX12_loose 73 = .ok (.iload 4, 2) := by decide +kernel
theorem dX12_loose_75 : decode cX12_loose 75 = .ok (.bipush 8, 2) := by decide +kernel
theorem dX12_loose_77 : decode cX12_loose 77 = .ok (.idiv, 1) := by decide +kernel
theorem dX12_loose_78 : decode cX12_loose 78 = .ok (.bipush 10, 2) := by decide +kernel
theorem dX12_loose_80 : decode cX12_loose 80 = .ok (.irem, 1) := by decide +kernel
theorem dX12_loose_81 : decode cX12_loose 81 = .ok (.invokevirtual 59, 3) := by decide +kernel
theorem dX12_loose_84 : decode cX12_loose 84 = .ok (.iload_n 2, 1) := by decide +kernel
theorem dX12_loose_85 : decode cX12_loose 85 = .ok (.aload_n 0, 1) := by decide +kernel
theorem dX12_loose_86 : decode cX12_loose 86 = .ok (.iconst 1, 1) := by decide +kernel
theorem dX12_loose_87 : decode cX12_loose 87 = .ok (.invokevirtual 195, 3) := by decide +kernel
theorem dX12_loose_90 : decode cX12_loose 90 = .ok (.iadd, 1) := by decide +kernel
theorem dX12_loose_91 : decode cX12_loose 91 = .ok (.istore_n 2, 1) := by decide +kernel
theorem dX12_loose_92 : decode cX12_loose 92 = .ok (.iinc 3 1, 3) := by decide +kernel
theorem dX12_loose_95 : decode cX12_loose 95 = .ok (.goto (-53), 3) := by decide +kernel
theorem dX12_loose_98 : decode cX12_loose 98 = .ok (.iload_n 2, 1) := by decide +kernel
theorem dX12_loose_99 : decode cX12_loose 99 = .ok (.ireturn, 1) := by decide +kernel
theorem dX12_then_0 : decode cX12_then 0 = .ok (.iload_n 1, 1) := by decide +kernel
theorem dX12_then_1 : decode cX12_then 1 = .ok (.iconst 0, 1) := by decide +kernel
theorem dX12_then_2 : decode cX12_then 2 = .ok (.bipush 60, 2) := by decide +kernel
theorem dX12_then_4 : decode cX12_then 4 = .ok (.invokestatic 41, 3) := by decide +kernel
theorem dX12_then_7 : decode cX12_then 7 = .ok (.ifCond .eq 20, 3) := by decide +kernel
theorem dX12_then_10 : decode cX12_then 10 = .ok (.aload_n 0, 1) := by decide +kernel
theorem dX12_then_11 : decode cX12_then 11 = .ok (.iload_n 2, 1) := by decide +kernel
theorem dX12_then_12 : decode cX12_then 12 = .ok (.invokevirtual 84, 3) := by decide +kernel
theorem dX12_then_15 : decode cX12_then 15 = .ok (.ifCond .eq 12, 3) := by decide +kernel
theorem dX12_then_18 : decode cX12_then 18 = .ok (.iload_n 3, 1) := by decide +kernel
theorem dX12_then_19 : decode cX12_then 19 = .ok (.iconst 0, 1) := by decide +kernel
theorem dX12_then_20 : decode cX12_then 20 = .ok (.iconst 3, 1) := by decide +kernel
theorem dX12_then_21 : decode cX12_then 21 = .ok (.invokestatic 41, 3) := by decide +kernel
theorem dX12_then_24 : decode cX12_then 24 = .ok (.ifCond .ne 10, 3) := by decide +kernel
theorem dX12_then_27 : decode cX12_then 27 = .ok (.aload_n 0, 1) := by decide +kernel
theorem dX12_then_28 : decode cX12_then 28 = .ok (.ldc 53, 2) := by decide +kernel
theorem dX12_then_30 : decode cX12_then 30 = .ok (.invokevirtual 54, 3) := by decide +kernel
theorem dX12_then_33 : decode cX12_then 33 = .ok (.ireturn, 1) := by decide +kernel
theorem dX12_then_34 : decode cX12_then 34 = .ok (.aload_n 0, 1) := by decide +kernel
theorem dX12_then_35 : decode cX12_then 35 = .ok (.aload_n 0, 1) := by decide +kernel
theorem dX12_then_36 : decode cX12_then 36 = .ok (.getfield 7, 3) := by decide +kernel
theorem dX12_then_39 : decode cX12_then 39 = .ok (.aload_n 0, 1) := by decide +kernel
theorem dX12_then_40 : decode cX12_then 40 = .ok (.getfield 16, 3) := by decide +kernel
theorem dX12_then_43 : decode cX12_then 43 = .ok (.invokevirtual 170, 3) := by decide +kernel
theorem dX12_then_46 : decode cX12_then 46 = .ok (.aload_n 0, 1) := by decide +kernel
theorem dX12_then_47 : decode cX12_then 47 = .ok (.iload_n 1, 1) := by decide +kernel
theorem dX12_then_48 : decode cX12_then 48 = .ok (.invokevirtual 195, 3) := by decide +kernel
theorem dX12_then_51 : decode cX12_then 51 = .ok (.pop, 1) := by decide +kernel
theorem dX12_then_52 : decode cX12_then 52 = .ok (.aload_n 0, 1) := by decide +kernel
theorem dX12_then_53 : decode cX12_then 53 = .ok (.iload_n 2, 1) := by decide +kernel
theorem dX12_then_54 : decode cX12_then 54 = .ok (.iload_n 3, 1) := by decide +kernel
theorem dX12_then_55 : decode cX12_then 55 = .ok (.invokevirtual 63, 3) := by decide +kernel
theorem dX12_then_58 : decode cX12_then 58 = .ok (.istore 4, 2) := by decide +kernel
theorem dX12_then_60 : decode cX12_then 60 = .ok (.aload_n 0, 1) := by decide +kernel
theorem dX12_then_61 : decode cX12_then 61 = .ok (.aload_n 0, 1) := by decide +kernel
theorem dX12_then_62 : decode cX12_then 62 = .ok (.getfield 16, 3) := by decide +kernel
theorem dX12_then_65 : decode cX12_then 65 = .ok (.aload_n 0, 1) := by decide +kernel
theorem dX12_then_66 : decode cX12_then 66 = .ok (.getfield 7, 3) := by decide +kernel
theorem dX12_then_69 : decode cX12_then 69 = .ok (.invokevirtual 170, 3) := by decide +kernel
theorem dX12_then_72 : decode cX12_then 72 = .ok (.iload 4, 2) := by decide +kernel
theorem dX12_then_74 : decode cX12_then 74 = .ok (.ireturn, 1) := by decide +kernel
theorem dX12_out_0 : decode cX12_out 0 = .ok (.iload_n 1, 1) := by decide +kernel
theorem dX12_out_1 : decode cX12_out 1 = .ok (.iconst 0, 1) := by decide +kernel
theorem dX12_out_2 : decode cX12_out 2 = .ok (.iconst 1, 1) := by decide +kernel
theorem dX12_out_3 : decode cX12_out 3 = .ok (.invokestatic 41, 3) := by decide +kernel
theorem dX12_out_6 : decode cX12_out 6 = .ok (.ifCond .ne 10, 3) := by decide +kernel
theorem dX12_out_9 : decode cX12_out 9 = .ok (.aload_n 0, 1) := by decide +kernel
theorem dX12_out_10 : decode cX12_out 10 = .ok (.ldc 53, 2) := by decide +kernel
theorem dX12_out_12 : decode cX12_out 12 = .ok (.invokevirtual 54, 3) := by decide +kernel
theorem dX12_out_15 : decode cX12_out 15 = .ok (.ireturn, 1) := by decide +kernel
theorem dX12_out_16 : decode cX12_out 16 = .ok (.aload_n 0, 1) := by decide +kernel
theorem dX12_out_17 : decode cX12_out 17 = .ok (.aload_n 0, 1) := by decide +kernel
theorem dX12_out_18 : decode cX12_out 18 = .ok (.getfield 7, 3) := by decide +kernel
theorem dX12_out_21 : decode cX12_out 21 = .ok (.aload_n 0, 1) := by decide +kernel
theorem dX12_out_22 : decode cX12_out 22 = .ok (.getfield 16, 3) := by decide +kernel
theorem dX12_out_25 : decode cX12_out 25 = .ok (.invokevirtual 170, 3) := by decide +kernel
theorem dX12_out_28 : decode cX12_out 28 = .ok (.iconst 0, 1) := by decide +kernel
theorem dX12_out_29 : decode cX12_out 29 = .ok (.istore_n 2, 1) := by decide +kernel
theorem dX12_out_30 : decode cX12_out 30 = .ok (.aload_n 0, 1) := by decide +kernel
theorem dX12_out_31 : decode cX12_out 31 = .ok (.iconst 0, 1) := by decide +kernel
theorem dX12_out_32 : decode cX12_out 32 = .ok (.putfield 181, 3) := by decide +kernel
theorem dX12_out_35 : decode cX12_out 35 = .ok (.iload_n 2, 1) := by decide +kernel
theorem dX12_out_36 : decode cX12_out 36 = .ok (.bipush 60, 2) := by decide +kernel
theorem dX12_out_38 : decode cX12_out 38 = .ok (.if_icmp .gt 20, 3) := by decide +kernel
theorem dX12_out_41 : decode cX12_out 41 = .ok (.aload_n 0, 1) := by decide +kernel
theorem dX12_out_42 : decode cX12_out 42 = .ok (.getfield 181, 3) := by decide +kernel
theorem dX12_out_45 : decode cX12_out 45 = .ok (.ifCond .ne 13, 3) := by decide +kernel
theorem dX12_out_48 : decode cX12_out 48 = .ok (.aload_n 0, 1) := by decide +kernel
theorem dX12_out_49 : decode cX12_out 49 = .ok (.invokevirtual 188, 3) := by decide +kernel
theorem dX12_out_52 : decode cX12_out 52 = .ok (.iinc 2 1, 3) := by decide +kernel
theorem dX12_out_55 : decode cX12_out 55 = .ok (.goto (-20), 3) := by decide +kernel
theorem dX12_out_58 : decode cX12_out 58 = .ok (.aload_n 0, 1) := by decide +kernel
theorem dX12_out_59 : decode cX12_out 59 = .ok (.aload_n 0, 1) := by decide +kernel
theorem dX12_out_60 : decode cX12_out 60 = .ok (.getfield 16, 3) := by decide +kernel
theorem dX12_out_63 : decode cX12_out 63 = .ok (.aload_n 0, 1) := by decide +kernel
theorem dX12_out_64 : decode cX12_out 64 = .ok (.getfield 7, 3) := by decide +kernel
theorem dX12_out_67 : decode cX12_out 67 = .ok (.invokevirtual 170, 3) := by decide +kernel
theorem dX12_out_70 : decode cX12_out 70 = .ok (.iload_n 2, 1) := by decide +kernel
theorem dX12_out_71 : decode cX12_out 71 = .ok (.bipush 60, 2) := by decide +kernel
theorem dX12_out_73 : decode cX12_out 73 = .ok (.if_icmp .le 10, 3) := by decide +kernel
theorem dX12_out_76 : decode cX12_out 76 = .ok (.aload_n 0, 1) := by decide +kernel
theorem dX12_out_77 : decode cX12_out 77 = .ok (.ldc 202, 2) := by decide +kernel
theorem dX12_out_79 : decode cX12_out 79 = .ok (.invokevirtual 54, 3) := by decide +kernel
theorem dX12_out_82 : decode cX12_out 82 = .ok (.ireturn, 1) := by decide +kernel
theorem dX12_out_83 : decode cX12_out 83 = .ok (.iconst 0, 1) := by decide +kernel
theorem dX12_out_84 : decode cX12_out 84 = .ok (.istore_n 3, 1) := by decide +kernel
theorem dX12_out_85 : decode cX12_out 85 = .ok (.aload_n 0, 1) := by decide +kernel
theorem dX12_out_86 : decode cX12_out 86 = .ok (.getfield 181, 3) := by decide +kernel
theorem dX12_out_89 : decode cX12_out 89 = .ok (.iload_n 3, 1) := by decide +kernel
theorem dX12_out_90 : decode cX12_out 90 = .ok (.ishr, 1) := by decide +kernel
theorem dX12_out_91 : decode cX12_out 91 = .ok (.iconst 1, 1) := by decide +kernel
theorem dX12_out_92 : decode cX12_out 92 = .ok (.iand, 1) := by decide +kernel
theorem dX12_out_93 : decode cX12_out 93 = .ok (.ifCond .ne 9, 3) := by decide +kernel
theorem dX12_out_96 : decode cX12_out 96 = .ok (.iinc 3 1, 3) := by decide +kernel
theorem dX12_out_99 : decode cX12_out 99 = .ok (.goto (-14), 3) := by decide +kernel
theorem dX12_out_102 : decode cX12_out 102 = .ok (.iload_n 1, 1) := by decide +kernel
theorem dX12_out_103 : decode cX12_out 103 = .ok (.ifCond .ne 7, 3) := by decide +kernel
theorem dX12_out_106 : decode cX12_out 106 = .ok (.iload_n 2, 1) := by decide +kernel
theorem dX12_out_107 : decode cX12_out 107 = .ok (.goto 4, 3) := by decide +kernel
theorem dX12_out_110 : decode cX12_out 110 = .ok (.iload_n 3, 1) := by decide +kernel
theorem dX12_out_111 : decode cX12_out 111 = .ok (.ireturn, 1) := by decide +kernel
theorem dX12_eyeFor_0 : decode cX12_eyeFor 0 = .ok (.aload_n 0, 1) := by decide +kernel
theorem dX12_eyeFor_1 : decode cX12_eyeFor 1 = .ok (.iload_n 1, 1) := by decide +kernel
theorem dX12_eyeFor_2 : decode cX12_eyeFor 2 = .ok (.invokevirtual 84, 3) := by decide +kernel
theorem dX12_eyeFor_5 : decode cX12_eyeFor 5 = .ok (.ifCond .eq 32, 3) := by decide +kernel
theorem dX12_eyeFor_8 : decode cX12_eyeFor 8 = .ok (.iload_n 2, 1) := by decide +kernel
theorem dX12_eyeFor_9 : decode cX12_eyeFor 9 = .ok (.iconst 0, 1) := by decide +kernel
theorem dX12_eyeFor_10 : decode cX12_eyeFor 10 = .ok (.iconst 1, 1) := by decide +kernel
theorem dX12_eyeFor_11 : decode cX12_eyeFor 11 = .ok (.invokestatic 41, 3) := by decide +kernel
theorem dX12_eyeFor_14 : decode cX12_eyeFor 14 = .ok (.ifCond .eq 23, 3) := by decide +kernel
theorem dX12_eyeFor_17 : decode cX12_eyeFor 17 = .ok (.iload_n 3, 1) := by decide +kernel
theorem dX12_eyeFor_18 : decode cX12_eyeFor 18 = .ok (.iconst 0, 1) := by decide +kernel
theorem dX12_eyeFor_19 : decode cX12_eyeFor 19 = .ok (.bipush 60, 2) := by decide +kernel
theorem dX12_eyeFor_21 : decode cX12_eyeFor 21 = .ok (.invokestatic 41, 3) := by decide +kernel
theorem dX12_eyeFor_24 : decode cX12_eyeFor 24 = .ok (.ifCond .eq 13, 3) := by decide +kernel
theorem dX12_eyeFor_27 : decode cX12_eyeFor 27 = .ok (.iload 4, 2) := by decide +kernel
theorem dX12_eyeFor_29 : decode cX12_eyeFor 29 = .ok (.iconst 0, 1) := by decide +kernel
theorem dX12_eyeFor_30 : decode cX12_eyeFor 30 = .ok (.iconst 1, 1) := by decide +kernel
theorem dX12_eyeFor_31 : decode cX12_eyeFor 31 = .ok (.invokestatic 41, 3) := by decide +kernel
theorem dX12_eyeFor_34 : decode cX12_eyeFor 34 = .ok (.ifCond .ne 10, 3) := by decide +kernel
theorem dX12_eyeFor_37 : decode cX12_eyeFor 37 = .ok (.aload_n 0, 1) := by decide +kernel
theorem dX12_eyeFor_38 : decode cX12_eyeFor 38 = .ok (.ldc 53, 2) := by decide +kernel
theorem dX12_eyeFor_40 : decode cX12_eyeFor 40 = .ok (.invokevirtual 54, 3) := by decide +kernel
theorem dX12_eyeFor_43 : decode cX12_eyeFor 43 = .ok (.ireturn, 1) := by decide +kernel
theorem dX12_eyeFor_44 : decode cX12_eyeFor 44 = .ok (.aload_n 0, 1) := by decide +kernel
theorem dX12_eyeFor_45 : decode cX12_eyeFor 45 = .ok (.getfield 7, 3) := by decide +kernel
theorem dX12_eyeFor_48 : decode cX12_eyeFor 48 = .ok (.iconst 2, 1) := by decide +kernel
theorem dX12_eyeFor_49 : decode cX12_eyeFor 49 = .ok (.iaload, 1) := by decide +kernel
theorem dX12_eyeFor_50 : decode cX12_eyeFor 50 = .ok (.ifCond .ne 10, 3) := by decide +kernel
theorem dX12_eyeFor_53 : decode cX12_eyeFor 53 = .ok (.aload_n 0, 1) := by decide +kernel
theorem dX12_eyeFor_54 : decode cX12_eyeFor 54 = .ok (.ldc 202, 2) := by decide +kernel
theorem dX12_eyeFor_56 : decode cX12_eyeFor 56 = .ok (.invokevirtual 54, 3) := by decide +kernel
theorem dX12_eyeFor_59 : decode cX12_eyeFor 59 = .ok (.ireturn, 1) := by decide +kernel
theorem dX12_eyeFor_60 : decode cX12_eyeFor 60 = .ok (.iconst 0, 1) := by decide +kernel
theorem dX12_eyeFor_61 : decode cX12_eyeFor 61 = .ok (.istore 5, 2) := by decide +kernel
theorem dX12_eyeFor_63 : decode cX12_eyeFor 63 = .ok (.iconst (-1), 1) := by decide +kernel
theorem dX12_eyeFor_64 : decode cX12_eyeFor 64 = .ok (.istore 6, 2) := by decide +kernel
theorem dX12_eyeFor_66 : decode cX12_eyeFor 66 = .ok (.aload_n 0, 1) := by decide +kernel
theorem dX12_eyeFor_67 : decode cX12_eyeFor 67 = .ok (.aload_n 0, 1) := by decide +kernel
theorem dX12_eyeFor_68 : decode cX12_eyeFor 68 = .ok (.getfield 7, 3) := by decide +kernel
theorem dX12_eyeFor_71 : decode cX12_eyeFor 71 = .ok (.aload_n 0, 1) := by decide +kernel
theorem dX12_eyeFor_72 : decode cX12_eyeFor 72 = .ok (.getfield 16, 3) := by decide +kernel
theorem dX12_eyeFor_75 : decode cX12_eyeFor 75 = .ok (.invokevirtual 170, 3) := by decide +kernel
theorem dX12_eyeFor_78 : decode cX12_eyeFor 78 = .ok (.iconst 0, 1) := by decide +kernel
theorem dX12_eyeFor_79 : decode cX12_eyeFor 79 = .ok (.istore 7, 2) := by decide +kernel
theorem dX12_eyeFor_81 : decode cX12_eyeFor 81 = .ok (.iload 7, 2) := by decide +kernel
theorem dX12_eyeFor_83 : decode cX12_eyeFor 83 = .ok (.aload_n 0, 1) := by decide +kernel
theorem dX12_eyeFor_84 : decode cX12_eyeFor 84 = .ok (.getfield 16, 3) := by decide +kernel
theorem dX12_eyeFor_87 : decode cX12_eyeFor 87 = .ok (.iconst 2, 1) := by decide +kernel
theorem dX12_eyeFor_88 : decode cX12_eyeFor 88 = .ok (.iaload, 1) := by decide +kernel
theorem dX12_eyeFor_89 : decode cX12_eyeFor 89 = .ok (.if_icmp .ge 75, 3) := by decide +kernel
theorem dX12_eyeFor_92 : decode cX12_eyeFor 92 = .ok (.aload_n 0, 1) := by decide +kernel
theorem dX12_eyeFor_93 : decode cX12_eyeFor 93 = .ok (.iload_n 1, 1) := by decide +kernel
theorem dX12_eyeFor_94 : decode cX12_eyeFor 94 = .ok (.iload_n 2, 1) := by decide +kernel
theorem dX12_eyeFor_95 : decode cX12_eyeFor 95 = .ok (.iload 7, 2) := by decide +kernel
theorem dX12_eyeFor_97 : decode cX12_eyeFor 97 = .ok (.invokevirtual 90, 3) := by decide +kernel
theorem dX12_eyeFor_100 : decode cX12_eyeFor 100 = .ok (.aload_n 0, 1) := by decide +kernel
theorem dX12_eyeFor_101 : decode cX12_eyeFor 101 = .ok (.iload_n 3, 1) := by decide +kernel
theorem dX12_eyeFor_102 : decode cX12_eyeFor 102 = .ok (.invokevirtual 195, 3) := by decide +kernel
theorem dX12_eyeFor_105 : decode cX12_eyeFor 105 = .ok (.pop, 1) := by decide +kernel
theorem dX12_eyeFor_106 : decode cX12_eyeFor 106 = .ok (.aload_n 0, 1) := by decide +kernel
theorem dX12_eyeFor_107 : decode cX12_eyeFor 107 = .ok (.iload_n 1, 1) := by decide +kernel
theorem dX12_eyeFor_108 : decode cX12_eyeFor 108 = .ok (.iconst 2, 1) := by decide +kernel
theorem dX12_eyeFor_109 : decode cX12_eyeFor 109 = .ok (.invokevirtual 63, 3) := by decide +kernel
theorem dX12_eyeFor_112 : decode cX12_eyeFor 112 = .ok (.istore 8, 2) := by decide +kernel
theorem dX12_eyeFor_114 : decode cX12_eyeFor 114 = .ok (.aload_n 0, 1) := by decide +kernel
theorem dX12_eyeFor_115 : decode cX12_eyeFor 115 = .ok (.aload_n 0, 1) := by decide +kernel
theorem dX12_eyeFor_116 : decode cX12_eyeFor 116 = .ok (.getfield 16, 3) := by decide +kernel
theorem dX12_eyeFor_119 : decode cX12_eyeFor 119 = .ok (.aload_n 0, 1) := by decide +kernel
theorem dX12_eyeFor_120 : decode cX12_eyeFor 120 = .ok (.getfield 7, 3) := by decide +kernel
theorem dX12_eyeFor_123 : decode cX12_eyeFor 123 = .ok (.invokevirtual 170, 3) := by decide +kernel
theorem dX12_eyeFor_126 : decode cX12_eyeFor 126 = .ok (.iload 8, 2) := by decide +kernel
theorem dX12_eyeFor_128 : decode cX12_eyeFor 128 = .ok (.iload 6, 2) := by decide +kernel
theorem dX12_eyeFor_130 : decode cX12_eyeFor 130 = .ok (.if_icmp .le 8, 3) := by decide +kernel
theorem dX12_eyeFor_133 : decode cX12_eyeFor 133 = .ok (.iload 7, 2) := by decide +kernel
theorem dX12_eyeFor_135 : decode cX12_eyeFor 135 = .ok (.goto 5, 3) := by decide +kernel
theorem dX12_eyeFor_138 : decode cX12_eyeFor 138 = .ok (.iload 5, 2) := by decide +kernel
theorem dX12_eyeFor_140 : decode cX12_eyeFor 140 = .ok (.istore 5, 2) := by decide +kernel
theorem dX12_eyeFor_142 : decode cX12_eyeFor 142 = .ok (.iload 8, 2) := by decide +kernel
theorem dX12_eyeFor_144 : decode cX12_eyeFor 144 = .ok (.iload 6, 2) := by decide +kernel
theorem dX12_eyeFor_146 : decode cX12_eyeFor 146 = .ok (.if_icmp .le 8, 3) := by decide +kernel
theorem dX12_eyeFor_149 : decode cX12_eyeFor 149 = .ok (.iload 8, 2) := by decide +kernel
theorem dX12_eyeFor_151 : decode cX12_eyeFor 151 = .ok (.goto 5, 3) := by decide +kernel
theorem dX12_eyeFor_154 : decode cX12_eyeFor 154 = .ok (.iload 6, 2) := by decide +kernel
theorem dX12_eyeFor_156 : decode cX12_eyeFor 156 = .ok (.istore 6, 2) := by decide +kernel
theorem dX12_eyeFor_158 : decode cX12_eyeFor 158 = .ok (.iinc 7 1, 3) := by decide +kernel
theorem dX12_eyeFor_161 : decode cX12_eyeFor 161 = .ok (.goto (-80), 3) := by decide +kernel
theorem dX12_eyeFor_164 : decode cX12_eyeFor 164 = .ok (.iload 4, 2) := by decide +kernel
theorem dX12_eyeFor_166 : decode cX12_eyeFor 166 = .ok (.ifCond .ne 8, 3) := by decide +kernel
theorem dX12_eyeFor_169 : decode cX12_eyeFor 169 = .ok (.iload 5, 2) := by decide +kernel
theorem dX12_eyeFor_171 : decode cX12_eyeFor 171 = .ok (.goto 5, 3) := by decide +kernel
theorem dX12_eyeFor_174 : decode cX12_eyeFor 174 = .ok (.iload 6, 2) := by decide +kernel
theorem dX12_eyeFor_176 : decode cX12_eyeFor 176 = .ok (.ireturn, 1) := by decide +kernel
theorem dX12_watch_0 : decode cX12_watch 0 = .ok (.aload_n 0, 1) := by decide +kernel
theorem dX12_watch_1 : decode cX12_watch 1 = .ok (.iload_n 1, 1) := by decide +kernel
theorem dX12_watch_2 : decode cX12_watch 2 = .ok (.invokevirtual 84, 3) := by decide +kernel
theorem dX12_watch_5 : decode cX12_watch 5 = .ok (.ifCond .eq 10, 3) := by decide +kernel
theorem dX12_watch_8 : decode cX12_watch 8 = .ok (.iload_n 2, 1) := by decide +kernel
theorem dX12_watch_9 : decode cX12_watch 9 = .ok (.invokestatic 45, 3) := by decide +kernel
theorem dX12_watch_12 : decode cX12_watch 12 = .ok (.ifCond .ne 10, 3) := by decide +kernel
theorem dX12_watch_15 : decode cX12_watch 15 = .ok (.aload_n 0, 1) := by decide +kernel
theorem dX12_watch_16 : decode cX12_watch 16 = .ok (.ldc 53, 2) := by decide +kernel
theorem dX12_watch_18 : decode cX12_watch 18 = .ok (.invokevirtual 54, 3) := by decide +kernel
theorem dX12_watch_21 : decode cX12_watch 21 = .ok (.ireturn, 1) := by decide +kernel
theorem dX12_watch_22 : decode cX12_watch 22 = .ok (.aload_n 0, 1) := by decide +kernel
theorem dX12_watch_23 : decode cX12_watch 23 = .ok (.aload_n 0, 1) := by decide +kernel
theorem dX12_watch_24 : decode cX12_watch 24 = .ok (.getfield 7, 3) := by decide +kernel
theorem dX12_watch_27 : decode cX12_watch 27 = .ok (.aload_n 0, 1) := by decide +kernel
theorem dX12_watch_28 : decode cX12_watch 28 = .ok (.getfield 16, 3) := by decide +kernel
theorem dX12_watch_31 : decode cX12_watch 31 = .ok (.invokevirtual 170, 3) := by decide +kernel
theorem dX12_watch_34 : decode cX12_watch 34 = .ok (.iconst 0, 1) := by decide +kernel
theorem dX12_watch_35 : decode cX12_watch 35 = .ok (.istore_n 3, 1) := by decide +kernel
theorem dX12_watch_36 : decode cX12_watch 36 = .ok (.iconst 0, 1) := by decide +kernel
theorem dX12_watch_37 : decode cX12_watch 37 = .ok (.istore 4, 2) := by decide +kernel
theorem dX12_watch_39 : decode cX12_watch 39 = .ok (.iload_n 3, 1) := by decide +kernel
theorem dX12_watch_40 : decode cX12_watch 40 = .ok (.bipush 60, 2) := by decide +kernel
theorem dX12_watch_42 : decode cX12_watch 42 = .ok (.if_icmp .gt 46, 3) := by decide +kernel
theorem dX12_watch_45 : decode cX12_watch 45 = .ok (.iload 4, 2) := by decide +kernel
theorem dX12_watch_47 : decode cX12_watch 47 = .ok (.ifCond .ne 41, 3) := by decide +kernel
theorem dX12_watch_50 : decode cX12_watch 50 = .ok (.aload_n 0, 1) := by decide +kernel
theorem dX12_watch_51 : decode cX12_watch 51 = .ok (.iload_n 1, 1) := by decide +kernel
theorem dX12_watch_52 : decode cX12_watch 52 = .ok (.iconst 3, 1) := by decide +kernel
theorem dX12_watch_53 : decode cX12_watch 53 = .ok (.iconst 0, 1) := by decide +kernel
theorem dX12_watch_54 : decode cX12_watch 54 = .ok (.invokevirtual 81, 3) := by decide +kernel
theorem dX12_watch_57 : decode cX12_watch 57 = .ok (.aload_n 0, 1) := by decide +kernel
theorem dX12_watch_58 : decode cX12_watch 58 = .ok (.invokevirtual 188, 3) := by decide +kernel
theorem dX12_watch_61 : decode cX12_watch 61 = .ok (.iinc 3 1, 3) := by decide +kernel
theorem dX12_watch_64 : decode cX12_watch 64 = .ok (.aload_n 0, 1) := by decide +kernel
theorem dX12_watch_65 : decode cX12_watch 65 = .ok (.iload_n 1, 1) := by decide +kernel
theorem dX12_watch_66 : decode cX12_watch 66 = .ok (.iconst 3, 1) := by decide +kernel
theorem dX12_watch_67 : decode cX12_watch 67 = .ok (.invokevirtual 63, 3) := by decide +kernel
theorem dX12_watch_70 : decode cX12_watch 70 = .ok (.iload_n 2, 1) := by decide +kernel
theorem dX12_watch_71 : decode cX12_watch 71 = .ok (.ishr, 1) := by decide +kernel
theorem dX12_watch_72 : decode cX12_watch 72 = .ok (.iconst 1, 1) := by decide +kernel
theorem dX12_watch_73 : decode cX12_watch 73 = .ok (.iand, 1) := by decide +kernel
theorem dX12_watch_74 : decode cX12_watch 74 = .ok (.iconst 1, 1) := by decide +kernel
theorem dX12_watch_75 : decode cX12_watch 75 = .ok (.if_icmp .ne 7, 3) := by decide +kernel
theorem dX12_watch_78 : decode cX12_watch 78 = .ok (.iconst 1, 1) := by decide +kernel
theorem dX12_watch_79 : decode cX12_watch 79 = .ok (.goto 4, 3) := by decide +kernel
theorem dX12_watch_82 : decode cX12_watch 82 = .ok (.iconst 0, 1) := by decide +kernel
theorem dX12_watch_83 : decode cX12_watch 83 = .ok (.istore 4, 2) := by decide +kernel
theorem dX12_watch_85 : decode cX12_watch 85 = .ok (.goto (-46), 3) := by decide +kernel
theorem dX12_watch_88 : decode cX12_watch 88 = .ok (.aload_n 0, 1) := by decide +kernel
theorem dX12_watch_89 : decode cX12_watch 89 = .ok (.aload_n 0, 1) := by decide +kernel
theorem dX12_watch_90 : decode cX12_watch 90 = .ok (.getfield 16, 3) := by decide +kernel
theorem dX12_watch_93 : decode cX12_watch 93 = .ok (.aload_n 0, 1) := by decide +kernel
theorem dX12_watch_94 : decode cX12_watch 94 = .ok (.getfield 7, 3) := by decide +kernel
theorem dX12_watch_97 : decode cX12_watch 97 = .ok (.invokevirtual 170, 3) := by decide +kernel
theorem dX12_watch_100 : decode cX12_watch 100 = .ok (.iload_n 3, 1) := by decide +kernel
theorem dX12_watch_101 : decode cX12_watch 101 = .ok (.bipush 60, 2) := by decide +kernel
theorem dX12_watch_103 : decode cX12_watch 103 = .ok (.if_icmp .le 12, 3) := by decide +kernel
theorem dX12_watch_106 : decode cX12_watch 106 = .ok (.aload_n 0, 1) := by decide +kernel
theorem dX12_watch_107 : decode cX12_watch 107 = .ok (.ldc 202, 2) := by decide +kernel
theorem dX12_watch_109 : decode cX12_watch 109 = .ok (.invokevirtual 54, 3) := by decide +kernel
theorem dX12_watch_112 : decode cX12_watch 112 = .ok (.goto 4, 3) := by decide +kernel
theorem dX12_watch_115 : decode cX12_watch 115 = .ok (.iload_n 3, 1) := by decide +kernel
theorem dX12_watch_116 : decode cX12_watch 116 = .ok (.ireturn, 1) := by decide +kernel
theorem dX12_isSheet_0 : decode cX12_isSheet 0 = .ok (.iload_n 0, 1) := by decide +kernel
theorem dX12_isSheet_1 : decode cX12_isSheet 1 = .ok (.iconst 0, 1) := by decide +kernel
theorem dX12_isSheet_2 : decode cX12_isSheet 2 = .ok (.iconst 3, 1) := by decide +kernel
theorem dX12_isSheet_3 : decode cX12_isSheet 3 = .ok (.invokestatic 41, 3) := by decide +kernel
theorem dX12_isSheet_6 : decode cX12_isSheet 6 = .ok (.ireturn, 1) := by decide +kernel
theorem dX12_showsSo_0 : decode cX12_showsSo 0 = .ok (.iconst 1, 1) := by decide +kernel
theorem dX12_showsSo_1 : decode cX12_showsSo 1 = .ok (.istore_n 3, 1) := by decide +kernel
theorem dX12_showsSo_2 : decode cX12_showsSo 2 = .ok (.iconst 0, 1) := by decide +kernel
theorem dX12_showsSo_3 : decode cX12_showsSo 3 = .ok (.istore 4, 2) := by decide +kernel
theorem dX12_showsSo_5 : decode cX12_showsSo 5 = .ok (.iload 4, 2) := by decide +kernel
theorem dX12_showsSo_7 : decode cX12_showsSo 7 = .ok (.aload_n 0, 1) := by decide +kernel
theorem dX12_showsSo_8 : decode cX12_showsSo 8 = .ok (.getfield 28, 3) := by decide +kernel
theorem dX12_showsSo_11 : decode cX12_showsSo 11 = .ok (.iload_n 1, 1) := by decide +kernel
theorem dX12_showsSo_12 : decode cX12_showsSo 12 = .ok (.iaload, 1) := by decide +kernel
theorem dX12_showsSo_13 : decode cX12_showsSo 13 = .ok (.if_icmp .ge 54, 3) := by decide +kernel
theorem dX12_showsSo_16 : decode cX12_showsSo 16 = .ok (.iload_n 3, 1) := by decide +kernel
theorem dX12_showsSo_17 : decode cX12_showsSo 17 = .ok (.ifCond .eq 50, 3) := by decide +kernel
theorem dX12_showsSo_20 : decode cX12_showsSo 20 = .ok (.aload_n 0, 1) := by decide +kernel
theorem dX12_showsSo_21 : decode cX12_showsSo 21 = .ok (.getfield 31, 3) := by decide +kernel
theorem dX12_showsSo_24 : decode cX12_showsSo 24 = .ok (.bipush 40, 2) := by decide +kernel
theorem dX12_showsSo_26 : decode cX12_showsSo 26 = .ok (.iload_n 1, 1) := by decide +kernel
theorem dX12_showsSo_27 : decode cX12_showsSo 27 = .ok (.imul, 1) := by decide +kernel
theorem dX12_showsSo_28 : decode cX12_showsSo 28 = .ok (.iload 4, 2) := by decide +kernel
theorem dX12_showsSo_30 : decode cX12_showsSo 30 = .ok (.iadd, 1) := by decide +kernel
theorem dX12_showsSo_31 : decode cX12_showsSo 31 = .ok (.iaload, 1) := by decide +kernel
theorem dX12_showsSo_32 : decode cX12_showsSo 32 = .ok (.aload_n 0, 1) := by decide +kernel
theorem dX12_showsSo_33 : decode cX12_showsSo 33 = .ok (.iload_n 2, 1) := by decide +kernel
theorem dX12_showsSo_34 : decode cX12_showsSo 34 = .ok (.invokevirtual 75, 3) := by decide +kernel
theorem dX12_showsSo_37 : decode cX12_showsSo 37 = .ok (.if_icmp .ne 7, 3) := by decide +kernel
theorem dX12_showsSo_40 : decode cX12_showsSo 40 = .ok (.iconst 1, 1) := by decide +kernel
theorem dX12_showsSo_41 : decode cX12_showsSo 41 = .ok (.goto 4, 3) := by decide +kernel
theorem dX12_showsSo_44 : decode cX12_showsSo 44 = .ok (.iconst 0, 1) := by decide +kernel
theorem dX12_showsSo_45 : decode cX12_showsSo 45 = .ok (.istore_n 3, 1) := by decide +kernel
theorem dX12_showsSo_46 : decode cX12_showsSo 46 = .ok (.aload_n 0, 1) := by decide +kernel
theorem dX12_showsSo_47 : decode cX12_showsSo 47 = .ok (.iload_n 2, 1) := by decide +kernel
theorem dX12_showsSo_48 : decode cX12_showsSo 48 = .ok (.invokevirtual 177, 3) := by decide +kernel
theorem dX12_showsSo_51 : decode cX12_showsSo 51 = .ok (.aload_n 0, 1) := by decide +kernel
theorem dX12_showsSo_52 : decode cX12_showsSo 52 = .ok (.getfield 7, 3) := by decide +kernel
theorem dX12_showsSo_55 : decode cX12_showsSo 55 = .ok (.iconst 0, 1) := by decide +kernel
theorem dX12_showsSo_56 : decode cX12_showsSo 56 = .ok (.dup2, 1) := by decide +kernel
theorem dX12_showsSo_57 : decode cX12_showsSo 57 = .ok (.iaload, 1) := by decide +kernel
theorem dX12_showsSo_58 : decode cX12_showsSo 58 = .ok (.iconst 1, 1) := by decide +kernel
theorem dX12_showsSo_59 : decode cX12_showsSo 59 = .ok (.iadd, 1) := by decide +kernel
theorem dX12_showsSo_60 : decode cX12_showsSo 60 = .ok (.iastore, 1) := by decide +kernel
theorem dX12_showsSo_61 : decode cX12_showsSo 61 = .ok (.iinc 4 1, 3) := by decide +kernel
theorem dX12_showsSo_64 : decode cX12_showsSo 64 = .ok (.goto (-59), 3) := by decide +kernel
theorem dX12_showsSo_67 : decode cX12_showsSo 67 = .ok (.iload_n 3, 1) := by decide +kernel
theorem dX12_showsSo_68 : decode cX12_showsSo 68 = .ok (.ireturn, 1) := by decide +kernel
theorem dX12_whose_0 : decode cX12_whose 0 = .ok (.iload_n 1, 1) := by decide +kernel
theorem dX12_whose_1 : decode cX12_whose 1 = .ok (.invokestatic 203, 3) := by decide +kernel
theorem dX12_whose_4 : decode cX12_whose 4 = .ok (.ifCond .eq 20, 3) := by decide +kernel
theorem dX12_whose_7 : decode cX12_whose 7 = .ok (.aload_n 0, 1) := by decide +kernel
theorem dX12_whose_8 : decode cX12_whose 8 = .ok (.iload_n 2, 1) := by decide +kernel
theorem dX12_whose_9 : decode cX12_whose 9 = .ok (.invokevirtual 84, 3) := by decide +kernel
theorem dX12_whose_12 : decode cX12_whose 12 = .ok (.ifCond .eq 12, 3) := by decide +kernel
theorem dX12_whose_15 : decode cX12_whose 15 = .ok (.iload_n 3, 1) := by decide +kernel
theorem dX12_whose_16 : decode cX12_whose 16 = .ok (.iconst 0, 1) := by decide +kernel
theorem dX12_whose_17 : decode cX12_whose 17 = .ok (.iconst 1, 1) := by decide +kernel
theorem dX12_whose_18 : decode cX12_whose 18 = .ok (.invokestatic 41, 3) := by decide +kernel
theorem dX12_whose_21 : decode cX12_whose 21 = .ok (.ifCond .ne 10, 3) := by decide +kernel
theorem dX12_whose_24 : decode cX12_whose 24 = .ok (.aload_n 0, 1) := by decide +kernel
theorem dX12_whose_25 : decode cX12_whose 25 = .ok (.ldc 53, 2) := by decide +kernel
theorem dX12_whose_27 : decode cX12_whose 27 = .ok (.invokevirtual 54, 3) := by decide +kernel
theorem dX12_whose_30 : decode cX12_whose 30 = .ok (.ireturn, 1) := by decide +kernel
theorem dX12_whose_31 : decode cX12_whose 31 = .ok (.aload_n 0, 1) := by decide +kernel
theorem dX12_whose_32 : decode cX12_whose 32 = .ok (.getfield 25, 3) := by decide +kernel
theorem dX12_whose_35 : decode cX12_whose 35 = .ok (.iload_n 1, 1) := by decide +kernel
theorem dX12_whose_36 : decode cX12_whose 36 = .ok (.iaload, 1) := by decide +kernel
theorem dX12_whose_37 : decode cX12_whose 37 = .ok (.ifCond .ne 10, 3) := by decide +kernel
theorem dX12_whose_40 : decode cX12_whose 40 = .ok (.aload_n 0, 1) := by decide +kernel
theorem dX12_whose_41 : decode cX12_whose 41 = .ok (.ldc 202, 2) := by decide +kernel
theorem dX12_whose_43 : decode cX12_whose 43 = .ok (.invokevirtual 54, 3) := by decide +kernel
theorem dX12_whose_46 : decode cX12_whose 46 = .ok (.ireturn, 1) := by decide +kernel
theorem dX12_whose_47 : decode cX12_whose 47 = .ok (.iconst 0, 1) := by decide +kernel
theorem dX12_whose_48 : decode cX12_whose 48 = .ok (.istore 4, 2) := by decide +kernel
theorem dX12_whose_50 : decode cX12_whose 50 = .ok (.aload_n 0, 1) := by decide +kernel
theorem dX12_whose_51 : decode cX12_whose 51 = .ok (.aload_n 0, 1) := by decide +kernel
theorem dX12_whose_52 : decode cX12_whose 52 = .ok (.getfield 7, 3) := by decide +kernel
theorem dX12_whose_55 : decode cX12_whose 55 = .ok (.aload_n 0, 1) := by decide +kernel
theorem dX12_whose_56 : decode cX12_whose 56 = .ok (.getfield 16, 3) := by decide +kernel
theorem dX12_whose_59 : decode cX12_whose 59 = .ok (.invokevirtual 170, 3) := by decide +kernel
theorem dX12_whose_62 : decode cX12_whose 62 = .ok (.iconst 0, 1) := by decide +kernel
theorem dX12_whose_63 : decode cX12_whose 63 = .ok (.istore 5, 2) := by decide +kernel
theorem dX12_whose_65 : decode cX12_whose 65 = .ok (.iload 5, 2) := by decide +kernel
theorem dX12_whose_67 : decode cX12_whose 67 = .ok (.aload_n 0, 1) := by decide +kernel
theorem dX12_whose_68 : decode cX12_whose 68 = .ok (.getfield 7, 3) := by decide +kernel
theorem dX12_whose_71 : decode cX12_whose 71 = .ok (.iconst 2, 1) := by decide +kernel
theorem dX12_whose_72 : decode cX12_whose 72 = .ok (.iaload, 1) := by decide +kernel
theorem dX12_whose_73 : decode cX12_whose 73 = .ok (.if_icmp .ge 44, 3) := by decide +kernel
theorem dX12_whose_76 : decode cX12_whose 76 = .ok (.iload 4, 2) := by decide +kernel
theorem dX12_whose_78 : decode cX12_whose 78 = .ok (.aload_n 0, 1) := by decide +kernel
theorem dX12_whose_79 : decode cX12_whose 79 = .ok (.iload_n 1, 1) := by decide +kernel
theorem dX12_whose_80 : decode cX12_whose 80 = .ok (.iload 5, 2) := by decide +kernel
theorem dX12_whose_82 : decode cX12_whose 82 = .ok (.invokevirtual 206, 3) := by decide +kernel
theorem dX12_whose_85 : decode cX12_whose 85 = .ok (.ifCond .eq 10, 3) := by decide +kernel
theorem dX12_whose_88 : decode cX12_whose 88 = .ok (.iconst 1, 1) := by decide +kernel
theorem dX12_whose_89 : decode cX12_whose 89 = .ok (.iload 5, 2) := by decide +kernel
theorem dX12_whose_91 : decode cX12_whose 91 = .ok (.ishl, 1) := by decide +kernel
theorem dX12_whose_92 : decode cX12_whose 92 = .ok (.goto 4, 3) := by decide +kernel
theorem dX12_whose_95 : decode cX12_whose 95 = .ok (.iconst 0, 1) := by decide +kernel
theorem dX12_whose_96 : decode cX12_whose 96 = .ok (.ior, 1) := by decide +kernel
theorem dX12_whose_97 : decode cX12_whose 97 = .ok (.istore 4, 2) := by decide +kernel
theorem dX12_whose_99 : decode cX12_whose 99 = .ok (.aload_n 0, 1) := by decide +kernel
theorem dX12_whose_100 : decode cX12_whose 100 = .ok (.aload_n 0, 1) := by decide +kernel
theorem dX12_whose_101 : decode cX12_whose 101 = .ok (.getfield 16, 3) := by decide +kernel
theorem dX12_whose_104 : decode cX12_whose 104 = .ok (.aload_n 0, 1) := by decide +kernel
theorem dX12_whose_105 : decode cX12_whose 105 = .ok (.getfield 7, 3) := by decide +kernel
theorem dX12_whose_108 : decode cX12_whose 108 = .ok (.invokevirtual 170, 3) := by decide +kernel
theorem dX12_whose_111 : decode cX12_whose 111 = .ok (.iinc 5 1, 3) := by decide +kernel
theorem dX12_whose_114 : decode cX12_whose 114 = .ok (.goto (-49), 3) := by decide +kernel
theorem dX12_whose_117 : decode cX12_whose 117 = .ok (.iload_n 3, 1) := by decide +kernel
theorem dX12_whose_118 : decode cX12_whose 118 = .ok (.ifCond .ne 8, 3) := by decide +kernel
theorem dX12_whose_121 : decode cX12_whose 121 = .ok (.iload 4, 2) := by decide +kernel
theorem dX12_whose_123 : decode cX12_whose 123 = .ok (.goto 8, 3) := by decide +kernel
theorem dX12_whose_126 : decode cX12_whose 126 = .ok (.iload 4, 2) := by decide +kernel
theorem dX12_whose_128 : decode cX12_whose 128 = .ok (.invokestatic 191, 3) := by decide +kernel
theorem dX12_whose_131 : decode cX12_whose 131 = .ok (.ireturn, 1) := by decide +kernel
theorem dX12_seenByAny_0 : decode cX12_seenByAny 0 = .ok (.iconst 0, 1) := by decide +kernel
theorem dX12_seenByAny_1 : decode cX12_seenByAny 1 = .ok (.istore_n 1, 1) := by decide +kernel
theorem dX12_seenByAny_2 : decode cX12_seenByAny 2 = .ok (.iconst 0, 1) := by decide +kernel
theorem dX12_seenByAny_3 : decode cX12_seenByAny 3 = .ok (.istore_n 2, 1) := by decide +kernel
theorem dX12_seenByAny_4 : decode cX12_seenByAny 4 = .ok (.iload_n 2, 1) := by decide +kernel
theorem dX12_seenByAny_5 : decode cX12_seenByAny 5 = .ok (.aload_n 0, 1) := by decide +kernel
theorem dX12_seenByAny_6 : decode cX12_seenByAny 6 = .ok (.getfield 7, 3) := by decide +kernel
theorem dX12_seenByAny_9 : decode cX12_seenByAny 9 = .ok (.iconst 3, 1) := by decide +kernel
theorem dX12_seenByAny_10 : decode cX12_seenByAny 10 = .ok (.iaload, 1) := by decide +kernel
theorem dX12_seenByAny_11 : decode cX12_seenByAny 11 = .ok (.if_icmp .ge 18, 3) := by decide +kernel
theorem dX12_seenByAny_14 : decode cX12_seenByAny 14 = .ok (.iload_n 1, 1) := by decide +kernel
theorem dX12_seenByAny_15 : decode cX12_seenByAny 15 = .ok (.aload_n 0, 1) := by decide +kernel
theorem dX12_seenByAny_16 : decode cX12_seenByAny 16 = .ok (.iload_n 2, 1) := by decide +kernel
theorem dX12_seenByAny_17 : decode cX12_seenByAny 17 = .ok (.iconst 3, 1) := by decide +kernel
theorem dX12_seenByAny_18 : decode cX12_seenByAny 18 = .ok (.invokevirtual 63, 3) := by decide +kernel
theorem dX12_seenByAny_21 : decode cX12_seenByAny 21 = .ok (.ior, 1) := by decide +kernel
theorem dX12_seenByAny_22 : decode cX12_seenByAny 22 = .ok (.istore_n 1, 1) := by decide +kernel
theorem dX12_seenByAny_23 : decode cX12_seenByAny 23 = .ok (.iinc 2 1, 3) := by decide +kernel
theorem dX12_seenByAny_26 : decode cX12_seenByAny 26 = .ok (.goto (-22), 3) := by decide +kernel
theorem dX12_seenByAny_29 : decode cX12_seenByAny 29 = .ok (.iload_n 1, 1) := by decide +kernel
theorem dX12_seenByAny_30 : decode cX12_seenByAny 30 = .ok (.ireturn, 1) := by decide +kernel
theorem dX12_seenBehind_0 : decode cX12_seenBehind 0 = .ok (.aload_n 0, 1) := by decide +kernel
theorem dX12_seenBehind_1 : decode cX12_seenBehind 1 = .ok (.iload_n 1, 1) := by decide +kernel
theorem dX12_seenBehind_2 : decode cX12_seenBehind 2 = .ok (.invokevirtual 195, 3) := by decide +kernel
theorem dX12_seenBehind_5 : decode cX12_seenBehind 5 = .ok (.pop, 1) := by decide +kernel
theorem dX12_seenBehind_6 : decode cX12_seenBehind 6 = .ok (.aload_n 0, 1) := by decide +kernel
theorem dX12_seenBehind_7 : decode cX12_seenBehind 7 = .ok (.invokevirtual 210, 3) := by decide +kernel
theorem dX12_seenBehind_10 : decode cX12_seenBehind 10 = .ok (.invokestatic 191, 3) := by decide +kernel
theorem dX12_seenBehind_13 : decode cX12_seenBehind 13 = .ok (.istore_n 2, 1) := by decide +kernel
theorem dX12_seenBehind_14 : decode cX12_seenBehind 14 = .ok (.aload_n 0, 1) := by decide +kernel
theorem dX12_seenBehind_15 : decode cX12_seenBehind 15 = .ok (.aload_n 0, 1) := by decide +kernel
theorem dX12_seenBehind_16 : decode cX12_seenBehind 16 = .ok (.getfield 16, 3) := by decide +kernel
theorem dX12_seenBehind_19 : decode cX12_seenBehind 19 = .ok (.aload_n 0, 1) := by decide +kernel
theorem dX12_seenBehind_20 : decode cX12_seenBehind 20 = .ok (.getfield 7, 3) := by decide +kernel
theorem dX12_seenBehind_23 : decode cX12_seenBehind 23 = .ok (.invokevirtual 170, 3) := by decide +kernel
theorem dX12_seenBehind_26 : decode cX12_seenBehind 26 = .ok (.iload_n 2, 1) := by decide +kernel
theorem dX12_seenBehind_27 : decode cX12_seenBehind 27 = .ok (.ireturn, 1) := by decide +kernel
theorem dX12_lend_0 : decode cX12_lend 0 = .ok (.iload_n 1, 1) := by decide +kernel
theorem dX12_lend_1 : decode cX12_lend 1 = .ok (.iconst 0, 1) := by decide +kernel
theorem dX12_lend_2 : decode cX12_lend 2 = .ok (.bipush 30, 2) := by decide +kernel
theorem dX12_lend_4 : decode cX12_lend 4 = .ok (.invokestatic 41, 3) := by decide +kernel
theorem dX12_lend_7 : decode cX12_lend 7 = .ok (.ifCond .ne 10, 3) := by decide +kernel
theorem dX12_lend_10 : decode cX12_lend 10 = .ok (.aload_n 0, 1) := by decide +kernel
theorem dX12_lend_11 : decode cX12_lend 11 = .ok (.ldc 53, 2) := by decide +kernel
theorem dX12_lend_13 : decode cX12_lend 13 = .ok (.invokevirtual 54, 3) := by decide +kernel
theorem dX12_lend_16 : decode cX12_lend 16 = .ok (.ireturn, 1) := by decide +kernel
theorem dX12_lend_17 : decode cX12_lend 17 = .ok (.iconst (-1), 1) := by decide +kernel
theorem dX12_lend_18 : decode cX12_lend 18 = .ok (.istore_n 2, 1) := by decide +kernel
theorem dX12_lend_19 : decode cX12_lend 19 = .ok (.iconst (-1), 1) := by decide +kernel
theorem dX12_lend_20 : decode cX12_lend 20 = .ok (.istore_n 3, 1) := by decide +kernel
theorem dX12_lend_21 : decode cX12_lend 21 = .ok (.aload_n 0, 1) := by decide +kernel
theorem dX12_lend_22 : decode cX12_lend 22 = .ok (.aload_n 0, 1) := by decide +kernel
theorem dX12_lend_23 : decode cX12_lend 23 = .ok (.getfield 7, 3) := by decide +kernel
theorem dX12_lend_26 : decode cX12_lend 26 = .ok (.aload_n 0, 1) := by decide +kernel
theorem dX12_lend_27 : decode cX12_lend 27 = .ok (.getfield 16, 3) := by decide +kernel
theorem dX12_lend_30 : decode cX12_lend 30 = .ok (.invokevirtual 170, 3) := by decide +kernel
theorem dX12_lend_33 : decode cX12_lend 33 = .ok (.iconst 0, 1) := by decide +kernel
theorem dX12_lend_34 : decode cX12_lend 34 = .ok (.istore 4, 2) := by decide +kernel
theorem dX12_lend_36 : decode cX12_lend 36 = .ok (.iload 4, 2) := by decide +kernel
theorem dX12_lend_38 : decode cX12_lend 38 = .ok (.aload_n 0, 1) := by decide +kernel
theorem dX12_lend_39 : decode cX12_lend 39 = .ok (.getfield 7, 3) := by decide +kernel
