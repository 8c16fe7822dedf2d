theorem dX11_voice_9 : decode cX11_voice 9 = .ok (.iconst 0, 1) := by decide +kernel
theorem dX11_voice_10 : decode cX11_voice 10 = .ok (.iconst 3, 1) := by decide +kernel
theorem dX11_voice_11 : decode cX11_voice 11 = .ok (.invokestatic 105, 3) := by decide +kernel
theorem dX11_voice_14 : decode cX11_voice 14 = .ok (.ifCond .eq 9, 3) := by decide +kernel
theorem dX11_voice_17 : decode cX11_voice 17 = .ok (.aload_n 0, 1) := by decide +kernel
theorem dX11_voice_18 : decode cX11_voice 18 = .ok (.iconst 1, 1) := by decide +kernel
theorem dX11_voice_19 : decode cX11_voice 19 = .ok (.invokevirtual 109, 3) := by decide +kernel
theorem dX11_voice_22 : decode cX11_voice 22 = .ok (.ireturn, 1) := by decide +kernel
theorem dX11_voice_23 : decode cX11_voice 23 = .ok (.aload_n 0, 1) := by decide +kernel
theorem dX11_voice_24 : decode cX11_voice 24 = .ok (.getfield 14, 3) := by decide +kernel
theorem dX11_voice_27 : decode cX11_voice 27 = .ok (.iconst 0, 1) := by decide +kernel
theorem dX11_voice_28 : decode cX11_voice 28 = .ok (.putfield 182, 3) := by decide +kernel
theorem dX11_voice_31 : decode cX11_voice 31 = .ok (.aload_n 0, 1) := by decide +kernel
theorem dX11_voice_32 : decode cX11_voice 32 = .ok (.getfield 41, 3) := by decide +kernel
theorem dX11_voice_35 : decode cX11_voice 35 = .ok (.aload_n 0, 1) := by decide +kernel
theorem dX11_voice_36 : decode cX11_voice 36 = .ok (.getfield 60, 3) := by decide +kernel
theorem dX11_voice_39 : decode cX11_voice 39 = .ok (.getfield 129, 3) := by decide +kernel
theorem dX11_voice_42 : decode cX11_voice 42 = .ok (.iload_n 1, 1) := by decide +kernel
theorem dX11_voice_43 : decode cX11_voice 43 = .ok (.iaload, 1) := by decide +kernel
theorem dX11_voice_44 : decode cX11_voice 44 = .ok (.aaload, 1) := by decide +kernel
theorem dX11_voice_45 : decode cX11_voice 45 = .ok (.astore 4, 2) := by decide +kernel
theorem dX11_voice_47 : decode cX11_voice 47 = .ok (.aload_n 0, 1) := by decide +kernel
theorem dX11_voice_48 : decode cX11_voice 48 = .ok (.getfield 60, 3) := by decide +kernel
theorem dX11_voice_51 : decode cX11_voice 51 = .ok (.getfield 132, 3) := by decide +kernel
theorem dX11_voice_54 : decode cX11_voice 54 = .ok (.iload_n 1, 1) := by decide +kernel
theorem dX11_voice_55 : decode cX11_voice 55 = .ok (.iaload, 1) := by decide +kernel
theorem dX11_voice_56 : decode cX11_voice 56 = .ok (.istore 5, 2) := by decide +kernel
theorem dX11_voice_58 : decode cX11_voice 58 = .ok (.iload_n 2, 1) := by decide +kernel
theorem dX11_voice_59 : decode cX11_voice 59 = .ok (.tableswitch 55 0 2 #[25, 35, 45], 25) := by decide +kernel
theorem dX11_voice_84 : decode cX11_voice 84 = .ok (.aload 4, 2) := by decide +kernel
theorem dX11_voice_86 : decode cX11_voice 86 = .ok (.iload_n 1, 1) := by decide +kernel
theorem dX11_voice_87 : decode cX11_voice 87 = .ok (.iload 5, 2) := by decide +kernel
theorem dX11_voice_89 : decode cX11_voice 89 = .ok (.iload_n 3, 1) := by decide +kernel
theorem dX11_voice_90 : decode cX11_voice 90 = .ok (.invokevirtual 281, 3) := by decide +kernel
theorem dX11_voice_93 : decode cX11_voice 93 = .ok (.ireturn, 1) := by decide +kernel
theorem dX11_voice_94 : decode cX11_voice 94 = .ok (.aload 4, 2) := by decide +kernel
theorem dX11_voice_96 : decode cX11_voice 96 = .ok (.iload_n 1, 1) := by decide +kernel
theorem dX11_voice_97 : decode cX11_voice 97 = .ok (.iload 5, 2) := by decide +kernel
theorem dX11_voice_99 : decode cX11_voice 99 = .ok (.iload_n 3, 1) := by decide +kernel
theorem dX11_voice_100 : decode cX11_voice 100 = .ok (.invokevirtual 284, 3) := by decide +kernel
theorem dX11_voice_103 : decode cX11_voice 103 = .ok (.ireturn, 1) := by decide +kernel
theorem dX11_voice_104 : decode cX11_voice 104 = .ok (.aload 4, 2) := by decide +kernel
theorem dX11_voice_106 : decode cX11_voice 106 = .ok (.iload_n 1, 1) := by decide +kernel
theorem dX11_voice_107 : decode cX11_voice 107 = .ok (.iload 5, 2) := by decide +kernel
theorem dX11_voice_109 : decode cX11_voice 109 = .ok (.iload_n 3, 1) := by decide +kernel
theorem dX11_voice_110 : decode cX11_voice 110 = .ok (.invokevirtual 287, 3) := by decide +kernel
theorem dX11_voice_113 : decode cX11_voice 113 = .ok (.ireturn, 1) := by decide +kernel
theorem dX11_voice_114 : decode cX11_voice 114 = .ok (.aload 4, 2) := by decide +kernel
theorem dX11_voice_116 : decode cX11_voice 116 = .ok (.iload_n 1, 1) := by decide +kernel
theorem dX11_voice_117 : decode cX11_voice 117 = .ok (.iload 5, 2) := by decide +kernel
theorem dX11_voice_119 : decode cX11_voice 119 = .ok (.iload_n 3, 1) := by decide +kernel
theorem dX11_voice_120 : decode cX11_voice 120 = .ok (.invokevirtual 290, 3) := by decide +kernel
theorem dX11_voice_123 : decode cX11_voice 123 = .ok (.ireturn, 1) := by decide +kernel
theorem dX11_trace_0 : decode cX11_trace 0 = .ok (.aload_n 0, 1) := by decide +kernel
theorem dX11_trace_1 : decode cX11_trace 1 = .ok (.getfield 14, 3) := by decide +kernel
theorem dX11_trace_4 : decode cX11_trace 4 = .ok (.iload_n 1, 1) := by decide +kernel
theorem dX11_trace_5 : decode cX11_trace 5 = .ok (.iconst 1, 1) := by decide +kernel
theorem dX11_trace_6 : decode cX11_trace 6 = .ok (.invokevirtual 293, 3) := by decide +kernel
theorem dX11_trace_9 : decode cX11_trace 9 = .ok (.ifCond .ne 9, 3) := by decide +kernel
theorem dX11_trace_12 : decode cX11_trace 12 = .ok (.aload_n 0, 1) := by decide +kernel
theorem dX11_trace_13 : decode cX11_trace 13 = .ok (.iconst 2, 1) := by decide +kernel
theorem dX11_trace_14 : decode cX11_trace 14 = .ok (.invokevirtual 109, 3) := by decide +kernel
theorem dX11_trace_17 : decode cX11_trace 17 = .ok (.ireturn, 1) := by decide +kernel
theorem dX11_trace_18 : decode cX11_trace 18 = .ok (.aload_n 0, 1) := by decide +kernel
theorem dX11_trace_19 : decode cX11_trace 19 = .ok (.getfield 14, 3) := by decide +kernel
theorem dX11_trace_22 : decode cX11_trace 22 = .ok (.getfield 297, 3) := by decide +kernel
theorem dX11_trace_25 : decode cX11_trace 25 = .ok (.iload_n 1, 1) := by decide +kernel
theorem dX11_trace_26 : decode cX11_trace 26 = .ok (.iaload, 1) := by decide +kernel
theorem dX11_trace_27 : decode cX11_trace 27 = .ok (.ireturn, 1) := by decide +kernel
theorem dX11_sheet_0 : decode cX11_sheet 0 = .ok (.iload_n 1, 1) := by decide +kernel
theorem dX11_sheet_1 : decode cX11_sheet 1 = .ok (.invokestatic 232, 3) := by decide +kernel
theorem dX11_sheet_4 : decode cX11_sheet 4 = .ok (.ifCond .ne 25, 3) := by decide +kernel
theorem dX11_sheet_7 : decode cX11_sheet 7 = .ok (.iload_n 2, 1) := by decide +kernel
theorem dX11_sheet_8 : decode cX11_sheet 8 = .ok (.ifCond .eq 27, 3) := by decide +kernel
theorem dX11_sheet_11 : decode cX11_sheet 11 = .ok (.iload_n 2, 1) := by decide +kernel
theorem dX11_sheet_12 : decode cX11_sheet 12 = .ok (.bipush 8, 2) := by decide +kernel
theorem dX11_sheet_14 : decode cX11_sheet 14 = .ok (.if_icmp .eq 21, 3) := by decide +kernel
theorem dX11_sheet_17 : decode cX11_sheet 17 = .ok (.iload_n 2, 1) := by decide +kernel
theorem dX11_sheet_18 : decode cX11_sheet 18 = .ok (.bipush 16, 2) := by decide +kernel
theorem dX11_sheet_20 : decode cX11_sheet 20 = .ok (.if_icmp .eq 15, 3) := by decide +kernel
theorem dX11_sheet_23 : decode cX11_sheet 23 = .ok (.iload_n 2, 1) := by decide +kernel
theorem dX11_sheet_24 : decode cX11_sheet 24 = .ok (.bipush 32, 2) := by decide +kernel
theorem dX11_sheet_26 : decode cX11_sheet 26 = .ok (.if_icmp .eq 9, 3) := by decide +kernel
theorem dX11_sheet_29 : decode cX11_sheet 29 = .ok (.aload_n 0, 1) := by decide +kernel
theorem dX11_sheet_30 : decode cX11_sheet 30 = .ok (.iconst 1, 1) := by decide +kernel
theorem dX11_sheet_31 : decode cX11_sheet 31 = .ok (.invokevirtual 109, 3) := by decide +kernel
theorem dX11_sheet_34 : decode cX11_sheet 34 = .ok (.ireturn, 1) := by decide +kernel
theorem dX11_sheet_35 : decode cX11_sheet 35 = .ok (.iload_n 2, 1) := by decide +kernel
theorem dX11_sheet_36 : decode cX11_sheet 36 = .ok (.ifCond .eq 13, 3) := by decide +kernel
theorem dX11_sheet_39 : decode cX11_sheet 39 = .ok (.iload_n 3, 1) := by decide +kernel
theorem dX11_sheet_40 : decode cX11_sheet 40 = .ok (.ifCond .ge 9, 3) := by decide +kernel
theorem dX11_sheet_43 : decode cX11_sheet 43 = .ok (.aload_n 0, 1) := by decide +kernel
theorem dX11_sheet_44 : decode cX11_sheet 44 = .ok (.iconst 3, 1) := by decide +kernel
theorem dX11_sheet_45 : decode cX11_sheet 45 = .ok (.invokevirtual 109, 3) := by decide +kernel
theorem dX11_sheet_48 : decode cX11_sheet 48 = .ok (.ireturn, 1) := by decide +kernel
theorem dX11_sheet_49 : decode cX11_sheet 49 = .ok (.iload_n 2, 1) := by decide +kernel
theorem dX11_sheet_50 : decode cX11_sheet 50 = .ok (.ifCond .eq 15, 3) := by decide +kernel
theorem dX11_sheet_53 : decode cX11_sheet 53 = .ok (.iload_n 3, 1) := by decide +kernel
theorem dX11_sheet_54 : decode cX11_sheet 54 = .ok (.bipush 40, 2) := by decide +kernel
theorem dX11_sheet_56 : decode cX11_sheet 56 = .ok (.if_icmp .le 9, 3) := by decide +kernel
theorem dX11_sheet_59 : decode cX11_sheet 59 = .ok (.aload_n 0, 1) := by decide +kernel
theorem dX11_sheet_60 : decode cX11_sheet 60 = .ok (.iconst 1, 1) := by decide +kernel
theorem dX11_sheet_61 : decode cX11_sheet 61 = .ok (.invokevirtual 109, 3) := by decide +kernel
theorem dX11_sheet_64 : decode cX11_sheet 64 = .ok (.ireturn, 1) := by decide +kernel
theorem dX11_sheet_65 : decode cX11_sheet 65 = .ok (.aload_n 0, 1) := by decide +kernel
theorem dX11_sheet_66 : decode cX11_sheet 66 = .ok (.getfield 89, 3) := by decide +kernel
theorem dX11_sheet_69 : decode cX11_sheet 69 = .ok (.iload_n 1, 1) := by decide +kernel
theorem dX11_sheet_70 : decode cX11_sheet 70 = .ok (.aaload, 1) := by decide +kernel
theorem dX11_sheet_71 : decode cX11_sheet 71 = .ok (.iload_n 2, 1) := by decide +kernel
theorem dX11_sheet_72 : decode cX11_sheet 72 = .ok (.iload_n 2, 1) := by decide +kernel
theorem dX11_sheet_73 : decode cX11_sheet 73 = .ok (.ifCond .ne 7, 3) := by decide +kernel
theorem dX11_sheet_76 : decode cX11_sheet 76 = .ok (.iconst 0, 1) := by decide +kernel
theorem dX11_sheet_77 : decode cX11_sheet 77 = .ok (.goto 4, 3) := by decide +kernel
theorem dX11_sheet_80 : decode cX11_sheet 80 = .ok (.iload_n 3, 1) := by decide +kernel
theorem dX11_sheet_81 : decode cX11_sheet 81 = .ok (.invokevirtual 300, 3) := by decide +kernel
theorem dX11_sheet_84 : decode cX11_sheet 84 = .ok (.iconst 1, 1) := by decide +kernel
theorem dX11_sheet_85 : decode cX11_sheet 85 = .ok (.ireturn, 1) := by decide +kernel
theorem dX11_put_0 : decode cX11_put 0 = .ok (.iload_n 1, 1) := by decide +kernel
theorem dX11_put_1 : decode cX11_put 1 = .ok (.invokestatic 232, 3) := by decide +kernel
theorem dX11_put_4 : decode cX11_put 4 = .ok (.ifCond .eq 9, 3) := by decide +kernel
theorem dX11_put_7 : decode cX11_put 7 = .ok (.aload_n 0, 1) := by decide +kernel
theorem dX11_put_8 : decode cX11_put 8 = .ok (.iconst 1, 1) := by decide +kernel
theorem dX11_put_9 : decode cX11_put 9 = .ok (.invokevirtual 109, 3) := by decide +kernel
theorem dX11_put_12 : decode cX11_put 12 = .ok (.ireturn, 1) := by decide +kernel
theorem dX11_put_13 : decode cX11_put 13 = .ok (.aload_n 0, 1) := by decide +kernel
theorem dX11_put_14 : decode cX11_put 14 = .ok (.getfield 89, 3) := by decide +kernel
theorem dX11_put_17 : decode cX11_put 17 = .ok (.iload_n 1, 1) := by decide +kernel
theorem dX11_put_18 : decode cX11_put 18 = .ok (.aaload, 1) := by decide +kernel
theorem dX11_put_19 : decode cX11_put 19 = .ok (.astore 4, 2) := by decide +kernel
theorem dX11_put_21 : decode cX11_put 21 = .ok (.aload 4, 2) := by decide +kernel
theorem dX11_put_23 : decode cX11_put 23 = .ok (.getfield 235, 3) := by decide +kernel
theorem dX11_put_26 : decode cX11_put 26 = .ok (.ifCond .ne 9, 3) := by decide +kernel
theorem dX11_put_29 : decode cX11_put 29 = .ok (.aload_n 0, 1) := by decide +kernel
theorem dX11_put_30 : decode cX11_put 30 = .ok (.iconst 2, 1) := by decide +kernel
theorem dX11_put_31 : decode cX11_put 31 = .ok (.invokevirtual 109, 3) := by decide +kernel
theorem dX11_put_34 : decode cX11_put 34 = .ok (.ireturn, 1) := by decide +kernel
theorem dX11_put_35 : decode cX11_put 35 = .ok (.aload 4, 2) := by decide +kernel
theorem dX11_put_37 : decode cX11_put 37 = .ok (.iload_n 2, 1) := by decide +kernel
theorem dX11_put_38 : decode cX11_put 38 = .ok (.iconst 1, 1) := by decide +kernel
theorem dX11_put_39 : decode cX11_put 39 = .ok (.invokevirtual 293, 3) := by decide +kernel
theorem dX11_put_42 : decode cX11_put 42 = .ok (.ifCond .ne 9, 3) := by decide +kernel
theorem dX11_put_45 : decode cX11_put 45 = .ok (.aload_n 0, 1) := by decide +kernel
theorem dX11_put_46 : decode cX11_put 46 = .ok (.iconst 1, 1) := by decide +kernel
theorem dX11_put_47 : decode cX11_put 47 = .ok (.invokevirtual 109, 3) := by decide +kernel
theorem dX11_put_50 : decode cX11_put 50 = .ok (.ireturn, 1) := by decide +kernel
theorem dX11_put_51 : decode cX11_put 51 = .ok (.aload 4, 2) := by decide +kernel
theorem dX11_put_53 : decode cX11_put 53 = .ok (.getfield 297, 3) := by decide +kernel
theorem dX11_put_56 : decode cX11_put 56 = .ok (.iload_n 2, 1) := by decide +kernel
theorem dX11_put_57 : decode cX11_put 57 = .ok (.aload 4, 2) := by decide +kernel
theorem dX11_put_59 : decode cX11_put 59 = .ok (.iload_n 3, 1) := by decide +kernel
theorem dX11_put_60 : decode cX11_put 60 = .ok (.invokevirtual 303, 3) := by decide +kernel
theorem dX11_put_63 : decode cX11_put 63 = .ok (.iastore, 1) := by decide +kernel
theorem dX11_put_64 : decode cX11_put 64 = .ok (.iconst 1, 1) := by decide +kernel
theorem dX11_put_65 : decode cX11_put 65 = .ok (.ireturn, 1) := by decide +kernel
theorem dX11_move_0 : decode cX11_move 0 = .ok (.iload_n 1, 1) := by decide +kernel
theorem dX11_move_1 : decode cX11_move 1 = .ok (.invokestatic 232, 3) := by decide +kernel
theorem dX11_move_4 : decode cX11_move 4 = .ok (.ifCond .ne 10, 3) := by decide +kernel
theorem dX11_move_7 : decode cX11_move 7 = .ok (.iload_n 3, 1) := by decide +kernel
theorem dX11_move_8 : decode cX11_move 8 = .ok (.invokestatic 232, 3) := by decide +kernel
theorem dX11_move_11 : decode cX11_move 11 = .ok (.ifCond .eq 9, 3) := by decide +kernel
theorem dX11_move_14 : decode cX11_move 14 = .ok (.aload_n 0, 1) := by decide +kernel
theorem dX11_move_15 : decode cX11_move 15 = .ok (.iconst 1, 1) := by decide +kernel
theorem dX11_move_16 : decode cX11_move 16 = .ok (.invokevirtual 109, 3) := by decide +kernel
theorem dX11_move_19 : decode cX11_move 19 = .ok (.ireturn, 1) := by decide +kernel
theorem dX11_move_20 : decode cX11_move 20 = .ok (.aload_n 0, 1) := by decide +kernel
theorem dX11_move_21 : decode cX11_move 21 = .ok (.getfield 89, 3) := by decide +kernel
theorem dX11_move_24 : decode cX11_move 24 = .ok (.iload_n 1, 1) := by decide +kernel
theorem dX11_move_25 : decode cX11_move 25 = .ok (.aaload, 1) := by decide +kernel
theorem dX11_move_26 : decode cX11_move 26 = .ok (.astore 6, 2) := by decide +kernel
theorem dX11_move_28 : decode cX11_move 28 = .ok (.aload_n 0, 1) := by decide +kernel
theorem dX11_move_29 : decode cX11_move 29 = .ok (.getfield 89, 3) := by decide +kernel
theorem dX11_move_32 : decode cX11_move 32 = .ok (.iload_n 3, 1) := by decide +kernel
theorem dX11_move_33 : decode cX11_move 33 = .ok (.aaload, 1) := by decide +kernel
theorem dX11_move_34 : decode cX11_move 34 = .ok (.astore 7, 2) := by decide +kernel
theorem dX11_move_36 : decode cX11_move 36 = .ok (.aload 6, 2) := by decide +kernel
theorem dX11_move_38 : decode cX11_move 38 = .ok (.getfield 235, 3) := by decide +kernel
theorem dX11_move_41 : decode cX11_move 41 = .ok (.ifCond .eq 11, 3) := by decide +kernel
theorem dX11_move_44 : decode cX11_move 44 = .ok (.aload 7, 2) := by decide +kernel
theorem dX11_move_46 : decode cX11_move 46 = .ok (.getfield 235, 3) := by decide +kernel
theorem dX11_move_49 : decode cX11_move 49 = .ok (.ifCond .ne 9, 3) := by decide +kernel
theorem dX11_move_52 : decode cX11_move 52 = .ok (.aload_n 0, 1) := by decide +kernel
theorem dX11_move_53 : decode cX11_move 53 = .ok (.iconst 2, 1) := by decide +kernel
theorem dX11_move_54 : decode cX11_move 54 = .ok (.invokevirtual 109, 3) := by decide +kernel
theorem dX11_move_57 : decode cX11_move 57 = .ok (.ireturn, 1) := by decide +kernel
theorem dX11_move_58 : decode cX11_move 58 = .ok (.aload 6, 2) := by decide +kernel
theorem dX11_move_60 : decode cX11_move 60 = .ok (.getfield 235, 3) := by decide +kernel
theorem dX11_move_63 : decode cX11_move 63 = .ok (.aload 7, 2) := by decide +kernel
theorem dX11_move_65 : decode cX11_move 65 = .ok (.getfield 235, 3) := by decide +kernel
theorem dX11_move_68 : decode cX11_move 68 = .ok (.if_icmp .eq 9, 3) := by decide +kernel
theorem dX11_move_71 : decode cX11_move 71 = .ok (.aload_n 0, 1) := by decide +kernel
theorem dX11_move_72 : decode cX11_move 72 = .ok (.iconst 5, 1) := by decide +kernel
theorem dX11_move_73 : decode cX11_move 73 = .ok (.invokevirtual 109, 3) := by decide +kernel
theorem dX11_move_76 : decode cX11_move 76 = .ok (.ireturn, 1) := by decide +kernel
theorem dX11_move_77 : decode cX11_move 77 = .ok (.aload 6, 2) := by decide +kernel
theorem dX11_move_79 : decode cX11_move 79 = .ok (.iload_n 2, 1) := by decide +kernel
theorem dX11_move_80 : decode cX11_move 80 = .ok (.iload 5, 2) := by decide +kernel
theorem dX11_move_82 : decode cX11_move 82 = .ok (.invokevirtual 293, 3) := by decide +kernel
theorem dX11_move_85 : decode cX11_move 85 = .ok (.ifCond .eq 15, 3) := by decide +kernel
theorem dX11_move_88 : decode cX11_move 88 = .ok (.aload 7, 2) := by decide +kernel
theorem dX11_move_90 : decode cX11_move 90 = .ok (.iload 4, 2) := by decide +kernel
theorem dX11_move_92 : decode cX11_move 92 = .ok (.iload 5, 2) := by decide +kernel
theorem dX11_move_94 : decode cX11_move 94 = .ok (.invokevirtual 293, 3) := by decide +kernel
theorem dX11_move_97 : decode cX11_move 97 = .ok (.ifCond .ne 9, 3) := by decide +kernel
theorem dX11_move_100 : decode cX11_move 100 = .ok (.aload_n 0, 1) := by decide +kernel
theorem dX11_move_101 : decode cX11_move 101 = .ok (.iconst 1, 1) := by decide +kernel
theorem dX11_move_102 : decode cX11_move 102 = .ok (.invokevirtual 109, 3) := by decide +kernel
theorem dX11_move_105 : decode cX11_move 105 = .ok (.ireturn, 1) := by decide +kernel
theorem dX11_move_106 : decode cX11_move 106 = .ok (.aload 6, 2) := by decide +kernel
theorem dX11_move_108 : decode cX11_move 108 = .ok (.getfield 297, 3) := by decide +kernel
theorem dX11_move_111 : decode cX11_move 111 = .ok (.iload_n 2, 1) := by decide +kernel
theorem dX11_move_112 : decode cX11_move 112 = .ok (.aload 7, 2) := by decide +kernel
theorem dX11_move_114 : decode cX11_move 114 = .ok (.getfield 297, 3) := by decide +kernel
theorem dX11_move_117 : decode cX11_move 117 = .ok (.iload 4, 2) := by decide +kernel
theorem dX11_move_119 : decode cX11_move 119 = .ok (.iload 5, 2) := by decide +kernel
theorem dX11_move_121 : decode cX11_move 121 = .ok (.invokestatic 306, 3) := by decide +kernel
theorem dX11_move_124 : decode cX11_move 124 = .ok (.iload 5, 2) := by decide +kernel
theorem dX11_move_126 : decode cX11_move 126 = .ok (.ireturn, 1) := by decide +kernel
theorem dX11_bases_0 : decode cX11_bases 0 = .ok (.iload_n 1, 1) := by decide +kernel
theorem dX11_bases_1 : decode cX11_bases 1 = .ok (.invokestatic 232, 3) := by decide +kernel
theorem dX11_bases_4 : decode cX11_bases 4 = .ok (.ifCond .eq 9, 3) := by decide +kernel
theorem dX11_bases_7 : decode cX11_bases 7 = .ok (.aload_n 0, 1) := by decide +kernel
theorem dX11_bases_8 : decode cX11_bases 8 = .ok (.iconst 1, 1) := by decide +kernel
theorem dX11_bases_9 : decode cX11_bases 9 = .ok (.invokevirtual 109, 3) := by decide +kernel
theorem dX11_bases_12 : decode cX11_bases 12 = .ok (.ireturn, 1) := by decide +kernel
theorem dX11_bases_13 : decode cX11_bases 13 = .ok (.aload_n 0, 1) := by decide +kernel
theorem dX11_bases_14 : decode cX11_bases 14 = .ok (.getfield 89, 3) := by decide +kernel
theorem dX11_bases_17 : decode cX11_bases 17 = .ok (.iload_n 1, 1) := by decide +kernel
theorem dX11_bases_18 : decode cX11_bases 18 = .ok (.aaload, 1) := by decide +kernel
theorem dX11_bases_19 : decode cX11_bases 19 = .ok (.astore_n 2, 1) := by decide +kernel
theorem dX11_bases_20 : decode cX11_bases 20 = .ok (.aload_n 2, 1) := by decide +kernel
theorem dX11_bases_21 : decode cX11_bases 21 = .ok (.getfield 235, 3) := by decide +kernel
theorem dX11_bases_24 : decode cX11_bases 24 = .ok (.ifCond .ne 9, 3) := by decide +kernel
theorem dX11_bases_27 : decode cX11_bases 27 = .ok (.aload_n 0, 1) := by decide +kernel
theorem dX11_bases_28 : decode cX11_bases 28 = .ok (.iconst 2, 1) := by decide +kernel
theorem dX11_bases_29 : decode cX11_bases 29 = .ok (.invokevirtual 109, 3) := by decide +kernel
theorem dX11_bases_32 : decode cX11_bases 32 = .ok (.ireturn, 1) := by decide +kernel
theorem dX11_bases_33 : decode cX11_bases 33 = .ok (.aload_n 2, 1) := by decide +kernel
theorem dX11_bases_34 : decode cX11_bases 34 = .ok (.getfield 182, 3) := by decide +kernel
theorem dX11_bases_37 : decode cX11_bases 37 = .ok (.aload_n 0, 1) := by decide +kernel
theorem dX11_bases_38 : decode cX11_bases 38 = .ok (.getfield 60, 3) := by decide +kernel
theorem dX11_bases_41 : decode cX11_bases 41 = .ok (.getfield 119, 3) := by decide +kernel
theorem dX11_bases_44 : decode cX11_bases 44 = .ok (.invokestatic 312, 3) := by decide +kernel
theorem dX11_bases_47 : decode cX11_bases 47 = .ok (.istore_n 3, 1) := by decide +kernel
theorem dX11_bases_48 : decode cX11_bases 48 = .ok (.iconst 0, 1) := by decide +kernel
theorem dX11_bases_49 : decode cX11_bases 49 = .ok (.istore 4, 2) := by decide +kernel
theorem dX11_bases_51 : decode cX11_bases 51 = .ok (.iload 4, 2) := by decide +kernel
theorem dX11_bases_53 : decode cX11_bases 53 = .ok (.iload_n 3, 1) := by decide +kernel
theorem dX11_bases_54 : decode cX11_bases 54 = .ok (.if_icmp .ge 45, 3) := by decide +kernel
theorem dX11_bases_57 : decode cX11_bases 57 = .ok (.aload_n 2, 1) := by decide +kernel
theorem dX11_bases_58 : decode cX11_bases 58 = .ok (.getfield 297, 3) := by decide +kernel
theorem dX11_bases_61 : decode cX11_bases 61 = .ok (.iload 4, 2) := by decide +kernel
theorem dX11_bases_63 : decode cX11_bases 63 = .ok (.iaload, 1) := by decide +kernel
theorem dX11_bases_64 : decode cX11_bases 64 = .ok (.iconst 0, 1) := by decide +kernel
theorem dX11_bases_65 : decode cX11_bases 65 = .ok (.bipush 9, 2) := by decide +kernel
theorem dX11_bases_67 : decode cX11_bases 67 = .ok (.invokestatic 105, 3) := by decide +kernel
theorem dX11_bases_70 : decode cX11_bases 70 = .ok (.ifCond .eq 6, 3) := by decide +kernel
theorem dX11_bases_73 : decode cX11_bases 73 = .ok (.iload 4, 2) := by decide +kernel
theorem dX11_bases_75 : decode cX11_bases 75 = .ok (.ireturn, 1) := by decide +kernel
theorem dX11_bases_76 : decode cX11_bases 76 = .ok (.aload_n 0, 1) := by decide +kernel
theorem dX11_bases_77 : decode cX11_bases 77 = .ok (.getfield 60, 3) := by decide +kernel
theorem dX11_bases_80 : decode cX11_bases 80 = .ok (.getfield 135, 3) := by decide +kernel
theorem dX11_bases_83 : decode cX11_bases 83 = .ok (.iload 4, 2) := by decide +kernel
theorem dX11_bases_85 : decode cX11_bases 85 = .ok (.aload_n 2, 1) := by decide +kernel
theorem dX11_bases_86 : decode cX11_bases 86 = .ok (.getfield 297, 3) := by decide +kernel
theorem dX11_bases_89 : decode cX11_bases 89 = .ok (.iload 4, 2) := by decide +kernel
theorem dX11_bases_91 : decode cX11_bases 91 = .ok (.iaload, 1) := by decide +kernel
theorem dX11_bases_92 : decode cX11_bases 92 = .ok (.iastore, 1) := by decide +kernel
theorem dX11_bases_93 : decode cX11_bases 93 = .ok (.iinc 4 1, 3) := by decide +kernel
theorem dX11_bases_96 : decode cX11_bases 96 = .ok (.goto (-45), 3) := by decide +kernel
theorem dX11_bases_99 : decode cX11_bases 99 = .ok (.iload_n 3, 1) := by decide +kernel
theorem dX11_bases_100 : decode cX11_bases 100 = .ok (.ireturn, 1) := by decide +kernel
theorem dX11_judge_0 : decode cX11_judge 0 = .ok (.iload_n 1, 1) := by decide +kernel
theorem dX11_judge_1 : decode cX11_judge 1 = .ok (.invokestatic 232, 3) := by decide +kernel
theorem dX11_judge_4 : decode cX11_judge 4 = .ok (.ifCond .eq 9, 3) := by decide +kernel
theorem dX11_judge_7 : decode cX11_judge 7 = .ok (.aload_n 0, 1) := by decide +kernel
theorem dX11_judge_8 : decode cX11_judge 8 = .ok (.iconst 1, 1) := by decide +kernel
theorem dX11_judge_9 : decode cX11_judge 9 = .ok (.invokevirtual 109, 3) := by decide +kernel
theorem dX11_judge_12 : decode cX11_judge 12 = .ok (.ireturn, 1) := by decide +kernel
theorem dX11_judge_13 : decode cX11_judge 13 = .ok (.aload_n 0, 1) := by decide +kernel
theorem dX11_judge_14 : decode cX11_judge 14 = .ok (.getfield 89, 3) := by decide +kernel
theorem dX11_judge_17 : decode cX11_judge 17 = .ok (.iload_n 1, 1) := by decide +kernel
theorem dX11_judge_18 : decode cX11_judge 18 = .ok (.aaload, 1) := by decide +kernel
theorem dX11_judge_19 : decode cX11_judge 19 = .ok (.astore_n 2, 1) := by decide +kernel
theorem dX11_judge_20 : decode cX11_judge 20 = .ok (.aload_n 2, 1) := by decide +kernel
theorem dX11_judge_21 : decode cX11_judge 21 = .ok (.getfield 235, 3) := by decide +kernel
theorem dX11_judge_24 : decode cX11_judge 24 = .ok (.ifCond .ne 9, 3) := by decide +kernel
theorem dX11_judge_27 : decode cX11_judge 27 = .ok (.aload_n 0, 1) := by decide +kernel
theorem dX11_judge_28 : decode cX11_judge 28 = .ok (.iconst 2, 1) := by decide +kernel
theorem dX11_judge_29 : decode cX11_judge 29 = .ok (.invokevirtual 109, 3) := by decide +kernel
theorem dX11_judge_32 : decode cX11_judge 32 = .ok (.ireturn, 1) := by decide +kernel
theorem dX11_judge_33 : decode cX11_judge 33 = .ok (.aload_n 2, 1) := by decide +kernel
theorem dX11_judge_34 : decode cX11_judge 34 = .ok (.getfield 182, 3) := by decide +kernel
theorem dX11_judge_37 : decode cX11_judge 37 = .ok (.aload_n 0, 1) := by decide +kernel
theorem dX11_judge_38 : decode cX11_judge 38 = .ok (.getfield 60, 3) := by decide +kernel
theorem dX11_judge_41 : decode cX11_judge 41 = .ok (.getfield 119, 3) := by decide +kernel
theorem dX11_judge_44 : decode cX11_judge 44 = .ok (.invokestatic 312, 3) := by decide +kernel
theorem dX11_judge_47 : decode cX11_judge 47 = .ok (.istore_n 3, 1) := by decide +kernel
theorem dX11_judge_48 : decode cX11_judge 48 = .ok (.iconst 0, 1) := by decide +kernel
theorem dX11_judge_49 : decode cX11_judge 49 = .ok (.istore 4, 2) := by decide +kernel
theorem dX11_judge_51 : decode cX11_judge 51 = .ok (.iload 4, 2) := by decide +kernel
theorem dX11_judge_53 : decode cX11_judge 53 = .ok (.iload_n 3, 1) := by decide +kernel
theorem dX11_judge_54 : decode cX11_judge 54 = .ok (.if_icmp .ge 31, 3) := by decide +kernel
theorem dX11_judge_57 : decode cX11_judge 57 = .ok (.aload_n 2, 1) := by decide +kernel
theorem dX11_judge_58 : decode cX11_judge 58 = .ok (.getfield 297, 3) := by decide +kernel
theorem dX11_judge_61 : decode cX11_judge 61 = .ok (.iload 4, 2) := by decide +kernel
theorem dX11_judge_63 : decode cX11_judge 63 = .ok (.iaload, 1) := by decide +kernel
theorem dX11_judge_64 : decode cX11_judge 64 = .ok (.aload_n 0, 1) := by decide +kernel
theorem dX11_judge_65 : decode cX11_judge 65 = .ok (.getfield 60, 3) := by decide +kernel
theorem dX11_judge_68 : decode cX11_judge 68 = .ok (.iload 4, 2) := by decide +kernel
theorem dX11_judge_70 : decode cX11_judge 70 = .ok (.invokevirtual 144, 3) := by decide +kernel
theorem dX11_judge_73 : decode cX11_judge 73 = .ok (.if_icmp .eq 6, 3) := by decide +kernel
theorem dX11_judge_76 : decode cX11_judge 76 = .ok (.iload 4, 2) := by decide +kernel
theorem dX11_judge_78 : decode cX11_judge 78 = .ok (.ireturn, 1) := by decide +kernel
theorem dX11_judge_79 : decode cX11_judge 79 = .ok (.iinc 4 1, 3) := by decide +kernel
theorem dX11_judge_82 : decode cX11_judge 82 = .ok (.goto (-31), 3) := by decide +kernel
theorem dX11_judge_85 : decode cX11_judge 85 = .ok (.aload_n 2, 1) := by decide +kernel
theorem dX11_judge_86 : decode cX11_judge 86 = .ok (.getfield 182, 3) := by decide +kernel
theorem dX11_judge_89 : decode cX11_judge 89 = .ok (.aload_n 0, 1) := by decide +kernel
theorem dX11_judge_90 : decode cX11_judge 90 = .ok (.getfield 60, 3) := by decide +kernel
theorem dX11_judge_93 : decode cX11_judge 93 = .ok (.getfield 119, 3) := by decide +kernel
theorem dX11_judge_96 : decode cX11_judge 96 = .ok (.if_icmp .ne 7, 3) := by decide +kernel
theorem dX11_judge_99 : decode cX11_judge 99 = .ok (.iconst (-1), 1) := by decide +kernel
theorem dX11_judge_100 : decode cX11_judge 100 = .ok (.goto 4, 3) := by decide +kernel
theorem dX11_judge_103 : decode cX11_judge 103 = .ok (.iload_n 3, 1) := by decide +kernel
theorem dX11_judge_104 : decode cX11_judge 104 = .ok (.ireturn, 1) := by decide +kernel
theorem dX11_image_0 : decode cX11_image 0 = .ok (.aload_n 0, 1) := by decide +kernel
theorem dX11_image_1 : decode cX11_image 1 = .ok (.getfield 67, 3) := by decide +kernel
theorem dX11_image_4 : decode cX11_image 4 = .ok (.aload_n 0, 1) := by decide +kernel
theorem dX11_image_5 : decode cX11_image 5 = .ok (.getfield 60, 3) := by decide +kernel
theorem dX11_image_8 : decode cX11_image 8 = .ok (.invokevirtual 223, 3) := by decide +kernel
theorem dX11_image_11 : decode cX11_image 11 = .ok (.aload_n 0, 1) := by decide +kernel
theorem dX11_image_12 : decode cX11_image 12 = .ok (.getfield 52, 3) := by decide +kernel
theorem dX11_image_15 : decode cX11_image 15 = .ok (.aload_n 0, 1) := by decide +kernel
theorem dX11_image_16 : decode cX11_image 16 = .ok (.getfield 48, 3) := by decide +kernel
theorem dX11_image_19 : decode cX11_image 19 = .ok (.invokevirtual 317, 3) := by decide +kernel
theorem dX11_image_22 : decode cX11_image 22 = .ok (.aload_n 0, 1) := by decide +kernel
theorem dX11_image_23 : decode cX11_image 23 = .ok (.getfield 80, 3) := by decide +kernel
theorem dX11_image_26 : decode cX11_image 26 = .ok (.aload_n 0, 1) := by decide +kernel
theorem dX11_image_27 : decode cX11_image 27 = .ok (.getfield 77, 3) := by decide +kernel
theorem dX11_image_30 : decode cX11_image 30 = .ok (.invokevirtual 201, 3) := by decide +kernel
theorem dX11_image_33 : decode cX11_image 33 = .ok (.aload_n 0, 1) := by decide +kernel
theorem dX11_image_34 : decode cX11_image 34 = .ok (.getfield 86, 3) := by decide +kernel
theorem dX11_image_37 : decode cX11_image 37 = .ok (.aload_n 0, 1) := by decide +kernel
theorem dX11_image_38 : decode cX11_image 38 = .ok (.getfield 83, 3) := by decide +kernel
theorem dX11_image_41 : decode cX11_image 41 = .ok (.invokevirtual 201, 3) := by decide +kernel
theorem dX11_image_44 : decode cX11_image 44 = .ok (.aload_n 0, 1) := by decide +kernel
theorem dX11_image_45 : decode cX11_image 45 = .ok (.dup, 1) := by decide +kernel
theorem dX11_image_46 : decode cX11_image 46 = .ok (.getfield 97, 3) := by decide +kernel
theorem dX11_image_49 : decode cX11_image 49 = .ok (.iconst 1, 1) := by decide +kernel
theorem dX11_image_50 : decode cX11_image 50 = .ok (.iadd, 1) := by decide +kernel
theorem dX11_image_51 : decode cX11_image 51 = .ok (.putfield 97, 3) := by decide +kernel
theorem dX11_image_54 : decode cX11_image 54 = .ok (.aload_n 0, 1) := by decide +kernel
theorem dX11_image_55 : decode cX11_image 55 = .ok (.getfield 97, 3) := by decide +kernel
theorem dX11_image_58 : decode cX11_image 58 = .ok (.ireturn, 1) := by decide +kernel
theorem dX11_restore_0 : decode cX11_restore 0 = .ok (.aload_n 0, 1) := by decide +kernel
theorem dX11_restore_1 : decode cX11_restore 1 = .ok (.getfield 97, 3) := by decide +kernel
theorem dX11_restore_4 : decode cX11_restore 4 = .ok (.ifCond .ne 9, 3) := by decide +kernel
theorem dX11_restore_7 : decode cX11_restore 7 = .ok (.aload_n 0, 1) := by decide +kernel
theorem dX11_restore_8 : decode cX11_restore 8 = .ok (.iconst 2, 1) := by decide +kernel
theorem dX11_restore_9 : decode cX11_restore 9 = .ok (.invokevirtual 109, 3) := by decide +kernel
theorem dX11_restore_12 : decode cX11_restore 12 = .ok (.ireturn, 1) := by decide +kernel
theorem dX11_restore_13 : decode cX11_restore 13 = .ok (.aload_n 0, 1) := by decide +kernel
theorem dX11_restore_14 : decode cX11_restore 14 = .ok (.getfield 60, 3) := by decide +kernel
theorem dX11_restore_17 : decode cX11_restore 17 = .ok (.aload_n 0, 1) := by decide +kernel
theorem dX11_restore_18 : decode cX11_restore 18 = .ok (.getfield 67, 3) := by decide +kernel
theorem dX11_restore_21 : decode cX11_restore 21 = .ok (.invokevirtual 223, 3) := by decide +kernel
theorem dX11_restore_24 : decode cX11_restore 24 = .ok (.aload_n 0, 1) := by decide +kernel
theorem dX11_restore_25 : decode cX11_restore 25 = .ok (.getfield 48, 3) := by decide +kernel
theorem dX11_restore_28 : decode cX11_restore 28 = .ok (.aload_n 0, 1) := by decide +kernel
theorem dX11_restore_29 : decode cX11_restore 29 = .ok (.getfield 52, 3) := by decide +kernel
theorem dX11_restore_32 : decode cX11_restore 32 = .ok (.invokevirtual 317, 3) := by decide +kernel
theorem dX11_restore_35 : decode cX11_restore 35 = .ok (.aload_n 0, 1) := by decide +kernel
theorem dX11_restore_36 : decode cX11_restore 36 = .ok (.getfield 77, 3) := by decide +kernel
theorem dX11_restore_39 : decode cX11_restore 39 = .ok (.aload_n 0, 1) := by decide +kernel
theorem dX11_restore_40 : decode cX11_restore 40 = .ok (.getfield 80, 3) := by decide +kernel
theorem dX11_restore_43 : decode cX11_restore 43 = .ok (.invokevirtual 201, 3) := by decide +kernel
theorem dX11_restore_46 : decode cX11_restore 46 = .ok (.aload_n 0, 1) := by decide +kernel
theorem dX11_restore_47 : decode cX11_restore 47 = .ok (.getfield 83, 3) := by decide +kernel
theorem dX11_restore_50 : decode cX11_restore 50 = .ok (.aload_n 0, 1) := by decide +kernel
theorem dX11_restore_51 : decode cX11_restore 51 = .ok (.getfield 86, 3) := by decide +kernel
theorem dX11_restore_54 : decode cX11_restore 54 = .ok (.invokevirtual 201, 3) := by decide +kernel
theorem dX11_restore_57 : decode cX11_restore 57 = .ok (.aload_n 0, 1) := by decide +kernel
theorem dX11_restore_58 : decode cX11_restore 58 = .ok (.getfield 60, 3) := by decide +kernel
theorem dX11_restore_61 : decode cX11_restore 61 = .ok (.getfield 208, 3) := by decide +kernel
theorem dX11_restore_64 : decode cX11_restore 64 = .ok (.ireturn, 1) := by decide +kernel
theorem dX11_tell_0 : decode cX11_tell 0 = .ok (.aload_n 0, 1) := by decide +kernel
theorem dX11_tell_1 : decode cX11_tell 1 = .ok (.getfield 83, 3) := by decide +kernel
theorem dX11_tell_4 : decode cX11_tell 4 = .ok (.getfield 182, 3) := by decide +kernel
theorem dX11_tell_7 : decode cX11_tell 7 = .ok (.bipush 20, 2) := by decide +kernel
theorem dX11_tell_9 : decode cX11_tell 9 = .ok (.if_icmp .lt 9, 3) := by decide +kernel
theorem dX11_tell_12 : decode cX11_tell 12 = .ok (.aload_n 0, 1) := by decide +kernel
theorem dX11_tell_13 : decode cX11_tell 13 = .ok (.iconst 4, 1) := by decide +kernel
theorem dX11_tell_14 : decode cX11_tell 14 = .ok (.invokevirtual 109, 3) := by decide +kernel
theorem dX11_tell_17 : decode cX11_tell 17 = .ok (.ireturn, 1) := by decide +kernel
theorem dX11_tell_18 : decode cX11_tell 18 = .ok (.aload_n 0, 1) := by decide +kernel
theorem dX11_tell_19 : decode cX11_tell 19 = .ok (.getfield 83, 3) := by decide +kernel
theorem dX11_tell_22 : decode cX11_tell 22 = .ok (.iload_n 1, 1) := by decide +kernel
theorem dX11_tell_23 : decode cX11_tell 23 = .ok (.invokevirtual 185, 3) := by decide +kernel
theorem dX11_tell_26 : decode cX11_tell 26 = .ok (.aload_n 0, 1) := by decide +kernel
theorem dX11_tell_27 : decode cX11_tell 27 = .ok (.getfield 83, 3) := by decide +kernel
theorem dX11_tell_30 : decode cX11_tell 30 = .ok (.getfield 182, 3) := by decide +kernel
theorem dX11_tell_33 : decode cX11_tell 33 = .ok (.ireturn, 1) := by decide +kernel
theorem dX11_check_0 : decode cX11_check 0 = .ok (.aload_n 0, 1) := by decide +kernel
theorem dX11_check_1 : decode cX11_check 1 = .ok (.getfield 83, 3) := by decide +kernel
theorem dX11_check_4 : decode cX11_check 4 = .ok (.getfield 182, 3) := by decide +kernel
theorem dX11_check_7 : decode cX11_check 7 = .ok (.istore_n 1, 1) := by decide +kernel
theorem dX11_check_8 : decode cX11_check 8 = .ok (.aload_n 0, 1) := by decide +kernel
theorem dX11_check_9 : decode cX11_check 9 = .ok (.getfield 83, 3) := by decide +kernel
theorem dX11_check_12 : decode cX11_check 12 = .ok (.iconst 0, 1) := by decide +kernel
theorem dX11_check_13 : decode cX11_check 13 = .ok (.putfield 182, 3) := by decide +kernel
theorem dX11_check_16 : decode cX11_check 16 = .ok (.aload_n 0, 1) := by decide +kernel
theorem dX11_check_17 : decode cX11_check 17 = .ok (.getfield 64, 3) := by decide +kernel
theorem dX11_check_20 : decode cX11_check 20 = .ok (.aload_n 0, 1) := by decide +kernel
theorem dX11_check_21 : decode cX11_check 21 = .ok (.getfield 60, 3) := by decide +kernel
theorem dX11_check_24 : decode cX11_check 24 = .ok (.invokevirtual 223, 3) := by decide +kernel
theorem dX11_check_27 : decode cX11_check 27 = .ok (.iconst 0, 1) := by decide +kernel
theorem dX11_check_28 : decode cX11_check 28 = .ok (.istore_n 2, 1) := by decide +kernel
theorem dX11_check_29 : decode cX11_check 29 = .ok (.iload_n 2, 1) := by decide +kernel
theorem dX11_check_30 : decode cX11_check 30 = .ok (.iload_n 1, 1) := by decide +kernel
theorem dX11_check_31 : decode cX11_check 31 = .ok (.if_icmp .ge 40, 3) := by decide +kernel
theorem dX11_check_34 : decode cX11_check 34 = .ok (.aload_n 0, 1) := by decide +kernel
theorem dX11_check_35 : decode cX11_check 35 = .ok (.getfield 64, 3) := by decide +kernel
theorem dX11_check_38 : decode cX11_check 38 = .ok (.iconst 1, 1) := by decide +kernel
theorem dX11_check_39 : decode cX11_check 39 = .ok (.invokevirtual 214, 3) := by decide +kernel
theorem dX11_check_42 : decode cX11_check 42 = .ok (.aload_n 0, 1) := by decide +kernel
theorem dX11_check_43 : decode cX11_check 43 = .ok (.getfield 64, 3) := by decide +kernel
theorem dX11_check_46 : decode cX11_check 46 = .ok (.invokevirtual 320, 3) := by decide +kernel
theorem dX11_check_49 : decode cX11_check 49 = .ok (.aload_n 0, 1) := by decide +kernel
theorem dX11_check_50 : decode cX11_check 50 = .ok (.getfield 83, 3) := by decide +kernel
theorem dX11_check_53 : decode cX11_check 53 = .ok (.getfield 297, 3) := by decide +kernel
theorem dX11_check_56 : decode cX11_check 56 = .ok (.iload_n 2, 1) := by decide +kernel
theorem dX11_check_57 : decode cX11_check 57 = .ok (.iaload, 1) := by decide +kernel
theorem dX11_check_58 : decode cX11_check 58 = .ok (.if_icmp .eq 7, 3) := by decide +kernel
theorem dX11_check_61 : decode cX11_check 61 = .ok (.iconst 1, 1) := by decide +kernel
theorem dX11_check_62 : decode cX11_check 62 = .ok (.iload_n 2, 1) := by decide +kernel
theorem dX11_check_63 : decode cX11_check 63 = .ok (.iadd, 1) := by decide +kernel
theorem dX11_check_64 : decode cX11_check 64 = .ok (.ireturn, 1) := by decide +kernel
theorem dX11_check_65 : decode cX11_check 65 = .ok (.iinc 2 1, 3) := by decide +kernel
theorem dX11_check_68 : decode cX11_check 68 = .ok (.goto (-39), 3) := by decide +kernel
theorem dX11_check_71 : decode cX11_check 71 = .ok (.iconst 0, 1) := by decide +kernel
theorem dX11_check_72 : decode cX11_check 72 = .ok (.ireturn, 1) := by decide +kernel
theorem dX11_count_0 : decode cX11_count 0 = .ok (.iload_n 1, 1) := by decide +kernel
theorem dX11_count_1 : decode cX11_count 1 = .ok (.tableswitch 135 0 9 #[55, 63, 71, 79, 87, 95, 103, 111, 119, 127], 55) := by decide +kernel
theorem dX11_count_56 : decode cX11_count 56 = .ok (.aload_n 0, 1) := by decide +kernel
theorem dX11_count_57 : decode cX11_count 57 = .ok (.getfield 60, 3) := by decide +kernel
theorem dX11_count_60 : decode cX11_count 60 = .ok (.getfield 119, 3) := by decide +kernel
theorem dX11_count_63 : decode cX11_count 63 = .ok (.ireturn, 1) := by decide +kernel
theorem dX11_count_64 : decode cX11_count 64 = .ok (.aload_n 0, 1) := by decide +kernel
theorem dX11_count_65 : decode cX11_count 65 = .ok (.getfield 60, 3) := by decide +kernel
theorem dX11_count_68 : decode cX11_count 68 = .ok (.getfield 150, 3) := by decide +kernel
theorem dX11_count_71 : decode cX11_count 71 = .ok (.ireturn, 1) := by decide +kernel
theorem dX11_count_72 : decode cX11_count 72 = .ok (.aload_n 0, 1) := by decide +kernel
theorem dX11_count_73 : decode cX11_count 73 = .ok (.getfield 60, 3) := by decide +kernel
theorem dX11_count_76 : decode cX11_count 76 = .ok (.getfield 208, 3) := by decide +kernel
theorem dX11_count_79 : decode cX11_count 79 = .ok (.ireturn, 1) := by decide +kernel
theorem dX11_count_80 : decode cX11_count 80 = .ok (.aload_n 0, 1) := by decide +kernel
theorem dX11_count_81 : decode cX11_count 81 = .ok (.getfield 60, 3) := by decide +kernel
theorem dX11_count_84 : decode cX11_count 84 = .ok (.invokevirtual 320, 3) := by decide +kernel
theorem dX11_count_87 : decode cX11_count 87 = .ok (.ireturn, 1) := by decide +kernel
theorem dX11_count_88 : decode cX11_count 88 = .ok (.aload_n 0, 1) := by decide +kernel
theorem dX11_count_89 : decode cX11_count 89 = .ok (.getfield 60, 3) := by decide +kernel
theorem dX11_count_92 : decode cX11_count 92 = .ok (.invokevirtual 259, 3) := by decide +kernel
theorem dX11_count_95 : decode cX11_count 95 = .ok (.ireturn, 1) := by decide +kernel
theorem dX11_count_96 : decode cX11_count 96 = .ok (.aload_n 0, 1) := by decide +kernel
theorem dX11_count_97 : decode cX11_count 97 = .ok (.getfield 60, 3) := by decide +kernel
theorem dX11_count_100 : decode cX11_count 100 = .ok (.invokevirtual 323, 3) := by decide +kernel
theorem dX11_count_103 : decode cX11_count 103 = .ok (.ireturn, 1) := by decide +kernel
theorem dX11_count_104 : decode cX11_count 104 = .ok (.aload_n 0, 1) := by decide +kernel
theorem dX11_count_105 : decode cX11_count 105 = .ok (.getfield 77, 3) := by decide +kernel
theorem dX11_count_108 : decode cX11_count 108 = .ok (.getfield 182, 3) := by decide +kernel
theorem dX11_count_111 : decode cX11_count 111 = .ok (.ireturn, 1) := by decide +kernel
theorem dX11_count_112 : decode cX11_count 112 = .ok (.aload_n 0, 1) := by decide +kernel
theorem dX11_count_113 : decode cX11_count 113 = .ok (.getfield 83, 3) := by decide +kernel
theorem dX11_count_116 : decode cX11_count 116 = .ok (.getfield 182, 3) := by decide +kernel
theorem dX11_count_119 : decode cX11_count 119 = .ok (.ireturn, 1) := by decide +kernel
theorem dX11_count_120 : decode cX11_count 120 = .ok (.aload_n 0, 1) := by decide +kernel
theorem dX11_count_121 : decode cX11_count 121 = .ok (.getfield 14, 3) := by decide +kernel
theorem dX11_count_124 : decode cX11_count 124 = .ok (.getfield 182, 3) := by decide +kernel
theorem dX11_count_127 : decode cX11_count 127 = .ok (.ireturn, 1) := by decide +kernel
theorem dX11_count_128 : decode cX11_count 128 = .ok (.aload_n 0, 1) := by decide +kernel
theorem dX11_count_129 : decode cX11_count 129 = .ok (.getfield 60, 3) := by decide +kernel
theorem dX11_count_132 : decode cX11_count 132 = .ok (.getfield 278, 3) := by decide +kernel
theorem dX11_count_135 : decode cX11_count 135 = .ok (.ireturn, 1) := by decide +kernel
theorem dX11_count_136 : decode cX11_count 136 = .ok (.aload_n 0, 1) := by decide +kernel
theorem dX11_count_137 : decode cX11_count 137 = .ok (.iconst 1, 1) := by decide +kernel
theorem dX11_count_138 : decode cX11_count 138 = .ok (.invokevirtual 109, 3) := by decide +kernel
theorem dX11_count_141 : decode cX11_count 141 = .ok (.ireturn, 1) := by decide +kernel
theorem dX11_told_0 : decode cX11_told 0 = .ok (.iload_n 1, 1) := by decide +kernel
theorem dX11_told_1 : decode cX11_told 1 = .ok (.iconst 1, 1) := by decide +kernel
theorem dX11_told_2 : decode cX11_told 2 = .ok (.iconst 5, 1) := by decide +kernel
theorem dX11_told_3 : decode cX11_told 3 = .ok (.invokestatic 105, 3) := by decide +kernel
theorem dX11_told_6 : decode cX11_told 6 = .ok (.ifCond .eq 9, 3) := by decide +kernel
theorem dX11_told_9 : decode cX11_told 9 = .ok (.aload_n 0, 1) := by decide +kernel
theorem dX11_told_10 : decode cX11_told 10 = .ok (.iconst 1, 1) := by decide +kernel
theorem dX11_told_11 : decode cX11_told 11 = .ok (.invokevirtual 109, 3) := by decide +kernel
theorem dX11_told_14 : decode cX11_told 14 = .ok (.ireturn, 1) := by decide +kernel
theorem dX11_told_15 : decode cX11_told 15 = .ok (.aload_n 0, 1) := by decide +kernel
theorem dX11_told_16 : decode cX11_told 16 = .ok (.getfield 93, 3) := by decide +kernel
theorem dX11_told_19 : decode cX11_told 19 = .ok (.iload_n 1, 1) := by decide +kernel
theorem dX11_told_20 : decode cX11_told 20 = .ok (.iaload, 1) := by decide +kernel
theorem dX11_told_21 : decode cX11_told 21 = .ok (.ireturn, 1) := by decide +kernel
theorem dX11_error_0 : decode cX11_error 0 = .ok (.aload_n 0, 1) := by decide +kernel
theorem dX11_error_1 : decode cX11_error 1 = .ok (.getfield 93, 3) := by decide +kernel
theorem dX11_error_4 : decode cX11_error 4 = .ok (.iload_n 1, 1) := by decide +kernel
theorem dX11_error_5 : decode cX11_error 5 = .ok (.dup2, 1) := by decide +kernel
theorem dX11_error_6 : decode cX11_error 6 = .ok (.iaload, 1) := by decide +kernel
theorem dX11_error_7 : decode cX11_error 7 = .ok (.iconst 1, 1) := by decide +kernel
theorem dX11_error_8 : decode cX11_error 8 = .ok (.iadd, 1) := by decide +kernel
theorem dX11_error_9 : decode cX11_error 9 = .ok (.iastore, 1) := by decide +kernel
theorem dX11_error_10 : decode cX11_error 10 = .ok (.ldc_w 326, 3) := by decide +kernel
theorem dX11_error_13 : decode cX11_error 13 = .ok (.iload_n 1, 1) := by decide +kernel
theorem dX11_error_14 : decode cX11_error 14 = .ok (.isub, 1) := by decide +kernel
theorem dX11_error_15 : decode cX11_error 15 = .ok (.ireturn, 1) := by decide +kernel
theorem dX11_outside_0 : decode cX11_outside 0 = .ok (.iload_n 0, 1) := by decide +kernel
theorem dX11_outside_1 : decode cX11_outside 1 = .ok (.iload_n 1, 1) := by decide +kernel
theorem dX11_outside_2 : decode cX11_outside 2 = .ok (.if_icmp .lt 8, 3) := by decide +kernel
theorem dX11_outside_5 : decode cX11_outside 5 = .ok (.iload_n 0, 1) := by decide +kernel
theorem dX11_outside_6 : decode cX11_outside 6 = .ok (.iload_n 2, 1) := by decide +kernel
theorem dX11_outside_7 : decode cX11_outside 7 = .ok (.if_icmp .le 7, 3) := by decide +kernel
theorem dX11_outside_10 : decode cX11_outside 10 = .ok (.iconst 1, 1) := by decide +kernel
theorem dX11_outside_11 : decode cX11_outside 11 = .ok (.goto 4, 3) := by decide +kernel
theorem dX11_outside_14 : decode cX11_outside 14 = .ok (.iconst 0, 1) := by decide +kernel
theorem dX11_outside_15 : decode cX11_outside 15 = .ok (.ireturn, 1) := by decide +kernel
theorem dX11_noThing_0 : decode cX11_noThing 0 = .ok (.iload_n 0, 1) := by decide +kernel
theorem dX11_noThing_1 : decode cX11_noThing 1 = .ok (.iconst 0, 1) := by decide +kernel
theorem dX11_noThing_2 : decode cX11_noThing 2 = .ok (.bipush 9, 2) := by decide +kernel
theorem dX11_noThing_4 : decode cX11_noThing 4 = .ok (.invokestatic 105, 3) := by decide +kernel
theorem dX11_noThing_7 : decode cX11_noThing 7 = .ok (.ireturn, 1) := by decide +kernel
theorem dX11_noKindAndNumber_0 : decode cX11_noKindAndNumber 0 = .ok (.iload_n 0, 1) := by decide +kernel
theorem dX11_noKindAndNumber_1 : decode cX11_noKindAndNumber 1 = .ok (.iconst 0, 1) := by decide +kernel
theorem dX11_noKindAndNumber_2 : decode cX11_noKindAndNumber 2 = .ok (.bipush 69, 2) := by decide +kernel
theorem dX11_noKindAndNumber_4 : decode cX11_noKindAndNumber 4 = .ok (.invokestatic 105, 3) := by decide +kernel
theorem dX11_noKindAndNumber_7 : decode cX11_noKindAndNumber 7 = .ok (.ireturn, 1) := by decide +kernel
theorem dX11_noEye_0 : decode cX11_noEye 0 = .ok (.iload_n 1, 1) := by decide +kernel
theorem dX11_noEye_1 : decode cX11_noEye 1 = .ok (.iconst 0, 1) := by decide +kernel
theorem dX11_noEye_2 : decode cX11_noEye 2 = .ok (.aload_n 0, 1) := by decide +kernel
theorem dX11_noEye_3 : decode cX11_noEye 3 = .ok (.getfield 60, 3) := by decide +kernel
theorem dX11_noEye_6 : decode cX11_noEye 6 = .ok (.getfield 119, 3) := by decide +kernel
theorem dX11_noEye_9 : decode cX11_noEye 9 = .ok (.iconst 1, 1) := by decide +kernel
theorem dX11_noEye_10 : decode cX11_noEye 10 = .ok (.isub, 1) := by decide +kernel
theorem dX11_noEye_11 : decode cX11_noEye 11 = .ok (.invokestatic 105, 3) := by decide +kernel
theorem dX11_noEye_14 : decode cX11_noEye 14 = .ok (.ireturn, 1) := by decide +kernel
theorem dX11_noWearer_0 : decode cX11_noWearer 0 = .ok (.iload_n 1, 1) := by decide +kernel
theorem dX11_noWearer_1 : decode cX11_noWearer 1 = .ok (.iconst 0, 1) := by decide +kernel
theorem dX11_noWearer_2 : decode cX11_noWearer 2 = .ok (.aload_n 0, 1) := by decide +kernel
theorem dX11_noWearer_3 : decode cX11_noWearer 3 = .ok (.getfield 60, 3) := by decide +kernel
theorem dX11_noWearer_6 : decode cX11_noWearer 6 = .ok (.getfield 150, 3) := by decide +kernel
theorem dX11_noWearer_9 : decode cX11_noWearer 9 = .ok (.iconst 1, 1) := by decide +kernel
theorem dX11_noWearer_10 : decode cX11_noWearer 10 = .ok (.isub, 1) := by decide +kernel
theorem dX11_noWearer_11 : decode cX11_noWearer 11 = .ok (.invokestatic 105, 3) := by decide +kernel
theorem dX11_noWearer_14 : decode cX11_noWearer 14 = .ok (.ireturn, 1) := by decide +kernel
theorem dX11_noSide_0 : decode cX11_noSide 0 = .ok (.iload_n 0, 1) := by decide +kernel
theorem dX11_noSide_1 : decode cX11_noSide 1 = .ok (.iconst 0, 1) := by decide +kernel
theorem dX11_noSide_2 : decode cX11_noSide 2 = .ok (.iconst 1, 1) := by decide +kernel
theorem dX11_noSide_3 : decode cX11_noSide 3 = .ok (.invokestatic 105, 3) := by decide +kernel
theorem dX11_noSide_6 : decode cX11_noSide 6 = .ok (.ireturn, 1) := by decide +kernel
theorem dX11_noUse_0 : decode cX11_noUse 0 = .ok (.iload_n 0, 1) := by decide +kernel
theorem dX11_noUse_1 : decode cX11_noUse 1 = .ok (.iconst 0, 1) := by decide +kernel
theorem dX11_noUse_2 : decode cX11_noUse 2 = .ok (.iconst 1, 1) := by decide +kernel
theorem dX11_noUse_3 : decode cX11_noUse 3 = .ok (.invokestatic 105, 3) := by decide +kernel
theorem dX11_noUse_6 : decode cX11_noUse 6 = .ok (.ireturn, 1) := by decide +kernel
theorem dX11_noSheet_0 : decode cX11_noSheet 0 = .ok (.iload_n 0, 1) := by decide +kernel
theorem dX11_noSheet_1 : decode cX11_noSheet 1 = .ok (.iconst 0, 1) := by decide +kernel
theorem dX11_noSheet_2 : decode cX11_noSheet 2 = .ok (.iconst 3, 1) := by decide +kernel
theorem dX11_noSheet_3 : decode cX11_noSheet 3 = .ok (.invokestatic 105, 3) := by decide +kernel
theorem dX11_noSheet_6 : decode cX11_noSheet 6 = .ok (.ireturn, 1) := by decide +kernel
theorem dX11_whoWears_0 : decode cX11_whoWears 0 = .ok (.aload_n 0, 1) := by decide +kernel
theorem dX11_whoWears_1 : decode cX11_whoWears 1 = .ok (.getfield 60, 3) := by decide +kernel
theorem dX11_whoWears_4 : decode cX11_whoWears 4 = .ok (.iload_n 1, 1) := by decide +kernel
theorem dX11_whoWears_5 : decode cX11_whoWears 5 = .ok (.invokevirtual 247, 3) := by decide +kernel
theorem dX11_whoWears_8 : decode cX11_whoWears 8 = .ok (.istore_n 2, 1) := by decide +kernel
theorem dX11_whoWears_9 : decode cX11_whoWears 9 = .ok (.iload_n 2, 1) := by decide +kernel
theorem dX11_whoWears_10 : decode cX11_whoWears 10 = .ok (.ifCond .ge 7, 3) := by decide +kernel
theorem dX11_whoWears_13 : decode cX11_whoWears 13 = .ok (.iconst (-1), 1) := by decide +kernel
theorem dX11_whoWears_14 : decode cX11_whoWears 14 = .ok (.goto 7, 3) := by decide +kernel
theorem dX11_whoWears_17 : decode cX11_whoWears 17 = .ok (.iload_n 2, 1) := by decide +kernel
theorem dX11_whoWears_18 : decode cX11_whoWears 18 = .ok (.invokestatic 256, 3) := by decide +kernel
theorem dX11_whoWears_21 : decode cX11_whoWears 21 = .ok (.ireturn, 1) := by decide +kernel
theorem dX11_placeNumber_0 : decode cX11_placeNumber 0 = .ok (.bipush 10, 2) := by decide +kernel
theorem dX11_placeNumber_2 : decode cX11_placeNumber 2 = .ok (.iload_n 0, 1) := by decide +kernel
theorem dX11_placeNumber_3 : decode cX11_placeNumber 3 = .ok (.iconst 2, 1) := by decide +kernel
theorem dX11_placeNumber_4 : decode cX11_placeNumber 4 = .ok (.idiv, 1) := by decide +kernel
theorem dX11_placeNumber_5 : decode cX11_placeNumber 5 = .ok (.imul, 1) := by decide +kernel
theorem dX11_placeNumber_6 : decode cX11_placeNumber 6 = .ok (.iload_n 0, 1) := by decide +kernel
theorem dX11_placeNumber_7 : decode cX11_placeNumber 7 = .ok (.iconst 2, 1) := by decide +kernel
theorem dX11_placeNumber_8 : decode cX11_placeNumber 8 = .ok (.irem, 1) := by decide +kernel
theorem dX11_placeNumber_9 : decode cX11_placeNumber 9 = .ok (.iadd, 1) := by decide +kernel
theorem dX11_placeNumber_10 : decode cX11_placeNumber 10 = .ok (.ireturn, 1) := by decide +kernel
theorem dX11_thinkAhead_0 : decode cX11_thinkAhead 0 = .ok (.aload_n 0, 1) := by decide +kernel
theorem dX11_thinkAhead_1 : decode cX11_thinkAhead 1 = .ok (.getfield 64, 3) := by decide +kernel
theorem dX11_thinkAhead_4 : decode cX11_thinkAhead 4 = .ok (.aload_n 0, 1) := by decide +kernel
theorem dX11_thinkAhead_5 : decode cX11_thinkAhead 5 = .ok (.getfield 60, 3) := by decide +kernel
theorem dX11_thinkAhead_8 : decode cX11_thinkAhead 8 = .ok (.invokevirtual 223, 3) := by decide +kernel
theorem dX11_thinkAhead_11 : decode cX11_thinkAhead 11 = .ok (.aload_n 0, 1) := by decide +kernel
theorem dX11_thinkAhead_12 : decode cX11_thinkAhead 12 = .ok (.getfield 64, 3) := by decide +kernel
theorem dX11_thinkAhead_15 : decode cX11_thinkAhead 15 = .ok (.iload_n 1, 1) := by decide +kernel
theorem dX11_thinkAhead_16 : decode cX11_thinkAhead 16 = .ok (.invokevirtual 214, 3) := by decide +kernel
theorem dX11_thinkAhead_19 : decode cX11_thinkAhead 19 = .ok (.return_, 1) := by decide +kernel
theorem dX11_couldBe_0 : decode cX11_couldBe 0 = .ok (.aload_n 0, 1) := by decide +kernel
theorem dX11_couldBe_1 : decode cX11_couldBe 1 = .ok (.getfield 64, 3) := by decide +kernel
theorem dX11_couldBe_4 : decode cX11_couldBe 4 = .ok (.aload_n 0, 1) := by decide +kernel
theorem dX11_couldBe_5 : decode cX11_couldBe 5 = .ok (.getfield 60, 3) := by decide +kernel
theorem dX11_couldBe_8 : decode cX11_couldBe 8 = .ok (.invokevirtual 223, 3) := by decide +kernel
theorem dX11_couldBe_11 : decode cX11_couldBe 11 = .ok (.aload_n 0, 1) := by decide +kernel
theorem dX11_couldBe_12 : decode cX11_couldBe 12 = .ok (.getfield 64, 3) := by decide +kernel
theorem dX11_couldBe_15 : decode cX11_couldBe 15 = .ok (.iload_n 3, 1) := by decide +kernel
theorem dX11_couldBe_16 : decode cX11_couldBe 16 = .ok (.iload_n 1, 1) := by decide +kernel
theorem dX11_couldBe_17 : decode cX11_couldBe 17 = .ok (.invokevirtual 271, 3) := by decide +kernel
theorem dX11_couldBe_20 : decode cX11_couldBe 20 = .ok (.aload_n 0, 1) := by decide +kernel
theorem dX11_couldBe_21 : decode cX11_couldBe 21 = .ok (.getfield 64, 3) := by decide +kernel
theorem dX11_couldBe_24 : decode cX11_couldBe 24 = .ok (.iload_n 3, 1) := by decide +kernel
theorem dX11_couldBe_25 : decode cX11_couldBe 25 = .ok (.putfield 327, 3) := by decide +kernel
theorem dX11_couldBe_28 : decode cX11_couldBe 28 = .ok (.iconst 0, 1) := by decide +kernel
theorem dX11_couldBe_29 : decode cX11_couldBe 29 = .ok (.istore 4, 2) := by decide +kernel
theorem dX11_couldBe_31 : decode cX11_couldBe 31 = .ok (.iload 4, 2) := by decide +kernel
theorem dX11_couldBe_33 : decode cX11_couldBe 33 = .ok (.aload_n 2, 1) := by decide +kernel
theorem dX11_couldBe_34 : decode cX11_couldBe 34 = .ok (.getfield 182, 3) := by decide +kernel
theorem dX11_couldBe_37 : decode cX11_couldBe 37 = .ok (.if_icmp .ge 38, 3) := by decide +kernel
theorem dX11_couldBe_40 : decode cX11_couldBe 40 = .ok (.aload_n 0, 1) := by decide +kernel
theorem dX11_couldBe_41 : decode cX11_couldBe 41 = .ok (.getfield 64, 3) := by decide +kernel
theorem dX11_couldBe_44 : decode cX11_couldBe 44 = .ok (.iconst 1, 1) := by decide +kernel
theorem dX11_couldBe_45 : decode cX11_couldBe 45 = .ok (.invokevirtual 214, 3) := by decide +kernel
theorem dX11_couldBe_48 : decode cX11_couldBe 48 = .ok (.aload_n 0, 1) := by decide +kernel
theorem dX11_couldBe_49 : decode cX11_couldBe 49 = .ok (.getfield 64, 3) := by decide +kernel
theorem dX11_couldBe_52 : decode cX11_couldBe 52 = .ok (.getfield 229, 3) := by decide +kernel
theorem dX11_couldBe_55 : decode cX11_couldBe 55 = .ok (.iload_n 3, 1) := by decide +kernel
theorem dX11_couldBe_56 : decode cX11_couldBe 56 = .ok (.iaload, 1) := by decide +kernel
theorem dX11_couldBe_57 : decode cX11_couldBe 57 = .ok (.aload_n 2, 1) := by decide +kernel
theorem dX11_couldBe_58 : decode cX11_couldBe 58 = .ok (.getfield 297, 3) := by decide +kernel
theorem dX11_couldBe_61 : decode cX11_couldBe 61 = .ok (.iload 4, 2) := by decide +kernel
theorem dX11_couldBe_63 : decode cX11_couldBe 63 = .ok (.iaload, 1) := by decide +kernel
theorem dX11_couldBe_64 : decode cX11_couldBe 64 = .ok (.if_icmp .eq 5, 3) := by decide +kernel
theorem dX11_couldBe_67 : decode cX11_couldBe 67 = .ok (.iconst 0, 1) := by decide +kernel
theorem dX11_couldBe_68 : decode cX11_couldBe 68 = .ok (.ireturn, 1) := by decide +kernel
theorem dX11_couldBe_69 : decode cX11_couldBe 69 = .ok (.iinc 4 1, 3) := by decide +kernel
theorem dX11_couldBe_72 : decode cX11_couldBe 72 = .ok (.goto (-41), 3) := by decide +kernel
theorem dX11_couldBe_75 : decode cX11_couldBe 75 = .ok (.iconst 1, 1) := by decide +kernel
theorem dX11_couldBe_76 : decode cX11_couldBe 76 = .ok (.ireturn, 1) := by decide +kernel
theorem dX11_thingsIfLent_0 : decode cX11_thingsIfLent 0 = .ok (.aload_n 0, 1) := by decide +kernel
theorem dX11_thingsIfLent_1 : decode cX11_thingsIfLent 1 = .ok (.getfield 64, 3) := by decide +kernel
theorem dX11_thingsIfLent_4 : decode cX11_thingsIfLent 4 = .ok (.aload_n 0, 1) := by decide +kernel
theorem dX11_thingsIfLent_5 : decode cX11_thingsIfLent 5 = .ok (.getfield 60, 3) := by decide +kernel
theorem dX11_thingsIfLent_8 : decode cX11_thingsIfLent 8 = .ok (.invokevirtual 223, 3) := by decide +kernel
theorem dX11_thingsIfLent_11 : decode cX11_thingsIfLent 11 = .ok (.aload_n 0, 1) := by decide +kernel
theorem dX11_thingsIfLent_12 : decode cX11_thingsIfLent 12 = .ok (.getfield 64, 3) := by decide +kernel
theorem dX11_thingsIfLent_15 : decode cX11_thingsIfLent 15 = .ok (.getfield 250, 3) := by decide +kernel
theorem dX11_thingsIfLent_18 : decode cX11_thingsIfLent 18 = .ok (.iload_n 2, 1) := by decide +kernel
theorem dX11_thingsIfLent_19 : decode cX11_thingsIfLent 19 = .ok (.iload_n 1, 1) := by decide +kernel
theorem dX11_thingsIfLent_20 : decode cX11_thingsIfLent 20 = .ok (.iastore, 1) := by decide +kernel
theorem dX11_thingsIfLent_21 : decode cX11_thingsIfLent 21 = .ok (.aload_n 0, 1) := by decide +kernel
theorem dX11_thingsIfLent_22 : decode cX11_thingsIfLent 22 = .ok (.getfield 64, 3) := by decide +kernel
theorem dX11_thingsIfLent_25 : decode cX11_thingsIfLent 25 = .ok (.iload_n 3, 1) := by decide +kernel
theorem dX11_thingsIfLent_26 : decode cX11_thingsIfLent 26 = .ok (.invokevirtual 214, 3) := by decide +kernel
theorem dX11_thingsIfLent_29 : decode cX11_thingsIfLent 29 = .ok (.aload_n 0, 1) := by decide +kernel
theorem dX11_thingsIfLent_30 : decode cX11_thingsIfLent 30 = .ok (.getfield 64, 3) := by decide +kernel
theorem dX11_thingsIfLent_33 : decode cX11_thingsIfLent 33 = .ok (.invokevirtual 259, 3) := by decide +kernel
theorem dX11_thingsIfLent_36 : decode cX11_thingsIfLent 36 = .ok (.invokestatic 242, 3) := by decide +kernel
theorem dX11_thingsIfLent_39 : decode cX11_thingsIfLent 39 = .ok (.ireturn, 1) := by decide +kernel
theorem dX11_thingsIfSwapped_0 : decode cX11_thingsIfSwapped 0 = .ok (.aload_n 0, 1) := by decide +kernel
theorem dX11_thingsIfSwapped_1 : decode cX11_thingsIfSwapped 1 = .ok (.getfield 64, 3) := by decide +kernel
theorem dX11_thingsIfSwapped_4 : decode cX11_thingsIfSwapped 4 = .ok (.aload_n 0, 1) := by decide +kernel
theorem dX11_thingsIfSwapped_5 : decode cX11_thingsIfSwapped 5 = .ok (.getfield 60, 3) := by decide +kernel
theorem dX11_thingsIfSwapped_8 : decode cX11_thingsIfSwapped 8 = .ok (.invokevirtual 223, 3) := by decide +kernel
theorem dX11_thingsIfSwapped_11 : decode cX11_thingsIfSwapped 11 = .ok (.iconst 0, 1) := by decide +kernel
theorem dX11_thingsIfSwapped_12 : decode cX11_thingsIfSwapped 12 = .ok (.istore 4, 2) := by decide +kernel
theorem dX11_thingsIfSwapped_14 : decode cX11_thingsIfSwapped 14 = .ok (.iload 4, 2) := by decide +kernel
theorem dX11_thingsIfSwapped_16 : decode cX11_thingsIfSwapped 16 = .ok (.iconst 1, 1) := by decide +kernel
theorem dX11_thingsIfSwapped_17 : decode cX11_thingsIfSwapped 17 = .ok (.if_icmp .gt 65, 3) := by decide +kernel
theorem dX11_thingsIfSwapped_20 : decode cX11_thingsIfSwapped 20 = .ok (.aload_n 0, 1) := by decide +kernel
theorem dX11_thingsIfSwapped_21 : decode cX11_thingsIfSwapped 21 = .ok (.getfield 64, 3) := by decide +kernel
theorem dX11_thingsIfSwapped_24 : decode cX11_thingsIfSwapped 24 = .ok (.getfield 250, 3) := by decide +kernel
theorem dX11_thingsIfSwapped_27 : decode cX11_thingsIfSwapped 27 = .ok (.iconst 2, 1) := by decide +kernel
theorem dX11_thingsIfSwapped_28 : decode cX11_thingsIfSwapped 28 = .ok (.iload_n 1, 1) := by decide +kernel
theorem dX11_thingsIfSwapped_29 : decode cX11_thingsIfSwapped 29 = .ok (.imul, 1) := by decide +kernel
theorem dX11_thingsIfSwapped_30 : decode cX11_thingsIfSwapped 30 = .ok (.iload 4, 2) := by decide +kernel
theorem dX11_thingsIfSwapped_32 : decode cX11_thingsIfSwapped 32 = .ok (.iadd, 1) := by decide +kernel
theorem dX11_thingsIfSwapped_33 : decode cX11_thingsIfSwapped 33 = .ok (.aload_n 0, 1) := by decide +kernel
theorem dX11_thingsIfSwapped_34 : decode cX11_thingsIfSwapped 34 = .ok (.getfield 60, 3) := by decide +kernel
theorem dX11_thingsIfSwapped_37 : decode cX11_thingsIfSwapped 37 = .ok (.getfield 250, 3) := by decide +kernel
theorem dX11_thingsIfSwapped_40 : decode cX11_thingsIfSwapped 40 = .ok (.iconst 2, 1) := by decide +kernel
theorem dX11_thingsIfSwapped_41 : decode cX11_thingsIfSwapped 41 = .ok (.iload_n 2, 1) := by decide +kernel
theorem dX11_thingsIfSwapped_42 : decode cX11_thingsIfSwapped 42 = .ok (.imul, 1) := by decide +kernel
theorem dX11_thingsIfSwapped_43 : decode cX11_thingsIfSwapped 43 = .ok (.iload 4, 2) := by decide +kernel
theorem dX11_thingsIfSwapped_45 : decode cX11_thingsIfSwapped 45 = .ok (.iadd, 1) := by decide +kernel
theorem dX11_thingsIfSwapped_46 : decode cX11_thingsIfSwapped 46 = .ok (.iaload, 1) := by decide +kernel
theorem dX11_thingsIfSwapped_47 : decode cX11_thingsIfSwapped 47 = .ok (.iastore, 1) := by decide +kernel
theorem dX11_thingsIfSwapped_48 : decode cX11_thingsIfSwapped 48 = .ok (.aload_n 0, 1) := by decide +kernel
theorem dX11_thingsIfSwapped_49 : decode cX11_thingsIfSwapped 49 = .ok (.getfield 64, 3) := by decide +kernel
theorem dX11_thingsIfSwapped_52 : decode cX11_thingsIfSwapped 52 = .ok (.getfield 250, 3) := by decide +kernel
theorem dX11_thingsIfSwapped_55 : decode cX11_thingsIfSwapped 55 = .ok (.iconst 2, 1) := by decide +kernel
theorem dX11_thingsIfSwapped_56 : decode cX11_thingsIfSwapped 56 = .ok (.iload_n 2, 1) := by decide +kernel
theorem dX11_thingsIfSwapped_57 : decode cX11_thingsIfSwapped 57 = .ok (.imul, 1) := by decide +kernel
theorem dX11_thingsIfSwapped_58 : decode cX11_thingsIfSwapped 58 = .ok (.iload 4, 2) := by decide +kernel
theorem dX11_thingsIfSwapped_60 : decode cX11_thingsIfSwapped 60 = .ok (.iadd, 1) := by decide +kernel
theorem dX11_thingsIfSwapped_61 : decode cX11_thingsIfSwapped 61 = .ok (.aload_n 0, 1) := by decide +kernel
theorem dX11_thingsIfSwapped_62 : decode cX11_thingsIfSwapped 62 = .ok (.getfield 60, 3) := by decide +kernel
theorem dX11_thingsIfSwapped_65 : decode cX11_thingsIfSwapped 65 = .ok (.getfield 250, 3) := by decide +kernel
theorem dX11_thingsIfSwapped_68 : decode cX11_thingsIfSwapped 68 = .ok (.iconst 2, 1) := by decide +kernel
theorem dX11_thingsIfSwapped_69 : decode cX11_thingsIfSwapped 69 = .ok (.iload_n 1, 1) := by decide +kernel
theorem dX11_thingsIfSwapped_70 : decode cX11_thingsIfSwapped 70 = .ok (.imul, 1) := by decide +kernel
theorem dX11_thingsIfSwapped_71 : decode cX11_thingsIfSwapped 71 = .ok (.iload 4, 2) := by decide +kernel
theorem dX11_thingsIfSwapped_73 : decode cX11_thingsIfSwapped 73 = .ok (.iadd, 1) := by decide +kernel
theorem dX11_thingsIfSwapped_74 : decode cX11_thingsIfSwapped 74 = .ok (.iaload, 1) := by decide +kernel
theorem dX11_thingsIfSwapped_75 : decode cX11_thingsIfSwapped 75 = .ok (.iastore, 1) := by decide +kernel
theorem dX11_thingsIfSwapped_76 : decode cX11_thingsIfSwapped 76 = .ok (.iinc 4 1, 3) := by decide +kernel
theorem dX11_thingsIfSwapped_79 : decode cX11_thingsIfSwapped 79 = .ok (.goto (-65), 3) := by decide +kernel
theorem dX11_thingsIfSwapped_82 : decode cX11_thingsIfSwapped 82 = .ok (.aload_n 0, 1) := by decide +kernel
theorem dX11_thingsIfSwapped_83 : decode cX11_thingsIfSwapped 83 = .ok (.getfield 64, 3) := by decide +kernel
theorem dX11_thingsIfSwapped_86 : decode cX11_thingsIfSwapped 86 = .ok (.iload_n 3, 1) := by decide +kernel
theorem dX11_thingsIfSwapped_87 : decode cX11_thingsIfSwapped 87 = .ok (.invokevirtual 214, 3) := by decide +kernel
theorem dX11_thingsIfSwapped_90 : decode cX11_thingsIfSwapped 90 = .ok (.aload_n 0, 1) := by decide +kernel
theorem dX11_thingsIfSwapped_91 : decode cX11_thingsIfSwapped 91 = .ok (.getfield 64, 3) := by decide +kernel
theorem dX11_thingsIfSwapped_94 : decode cX11_thingsIfSwapped 94 = .ok (.invokevirtual 259, 3) := by decide +kernel
theorem dX11_thingsIfSwapped_97 : decode cX11_thingsIfSwapped 97 = .ok (.invokestatic 242, 3) := by decide +kernel
theorem dX11_thingsIfSwapped_100 : decode cX11_thingsIfSwapped 100 = .ok (.ireturn, 1) := by decide +kernel
theorem dX11_commonDivisor_0 : decode cX11_commonDivisor 0 = .ok (.iload_n 1, 1) := by decide +kernel
theorem dX11_commonDivisor_1 : decode cX11_commonDivisor 1 = .ok (.istore_n 2, 1) := by decide +kernel
theorem dX11_commonDivisor_2 : decode cX11_commonDivisor 2 = .ok (.iload_n 2, 1) := by decide +kernel
theorem dX11_commonDivisor_3 : decode cX11_commonDivisor 3 = .ok (.iconst 1, 1) := by decide +kernel
theorem dX11_commonDivisor_4 : decode cX11_commonDivisor 4 = .ok (.if_icmp .le 23, 3) := by decide +kernel
theorem dX11_commonDivisor_7 : decode cX11_commonDivisor 7 = .ok (.iload_n 0, 1) := by decide +kernel
theorem dX11_commonDivisor_8 : decode cX11_commonDivisor 8 = .ok (.iload_n 2, 1) := by decide +kernel
theorem dX11_commonDivisor_9 : decode cX11_commonDivisor 9 = .ok (.irem, 1) := by decide +kernel
theorem dX11_commonDivisor_10 : decode cX11_commonDivisor 10 = .ok (.ifCond .ne 11, 3) := by decide +kernel
theorem dX11_commonDivisor_13 : decode cX11_commonDivisor 13 = .ok (.iload_n 1, 1) := by decide +kernel
theorem dX11_commonDivisor_14 : decode cX11_commonDivisor 14 = .ok (.iload_n 2, 1) := by decide +kernel
theorem dX11_commonDivisor_15 : decode cX11_commonDivisor 15 = .ok (.irem, 1) := by decide +kernel
theorem dX11_commonDivisor_16 : decode cX11_commonDivisor 16 = .ok (.ifCond .ne 5, 3) := by decide +kernel
theorem dX11_commonDivisor_19 : decode cX11_commonDivisor 19 = .ok (.iload_n 2, 1) := by decide +kernel
theorem dX11_commonDivisor_20 : decode cX11_commonDivisor 20 = .ok (.ireturn, 1) := by decide +kernel
theorem dX11_commonDivisor_21 : decode cX11_commonDivisor 21 = .ok (.iinc 2 (-1), 3) := by decide +kernel
theorem dX11_commonDivisor_24 : decode cX11_commonDivisor 24 = .ok (.goto (-22), 3) := by decide +kernel
theorem dX11_commonDivisor_27 : decode cX11_commonDivisor 27 = .ok (.iconst 1, 1) := by decide +kernel
theorem dX11_commonDivisor_28 : decode cX11_commonDivisor 28 = .ok (.ireturn, 1) := by decide +kernel
theorem dX12_init_0 : decode cX12_init 0 = .ok (.aload_n 0, 1) := by decide +kernel
theorem dX12_init_1 : decode cX12_init 1 = .ok (.invokespecial 1, 3) := by decide +kernel
theorem dX12_init_4 : decode cX12_init 4 = .ok (.aload_n 0, 1) := by decide +kernel
theorem dX12_init_5 : decode cX12_init 5 = .ok (.sipush 244, 3) := by decide +kernel
theorem dX12_init_8 : decode cX12_init 8 = .ok (.newarray .int, 2) := by decide +kernel
theorem dX12_init_10 : decode cX12_init 10 = .ok (.putfield 7, 3) := by decide +kernel
theorem dX12_init_13 : decode cX12_init 13 = .ok (.aload_n 0, 1) := by decide +kernel
theorem dX12_init_14 : decode cX12_init 14 = .ok (.sipush 244, 3) := by decide +kernel
theorem dX12_init_17 : decode cX12_init 17 = .ok (.newarray .int, 2) := by decide +kernel
theorem dX12_init_19 : decode cX12_init 19 = .ok (.putfield 13, 3) := by decide +kernel
theorem dX12_init_22 : decode cX12_init 22 = .ok (.aload_n 0, 1) := by decide +kernel
theorem dX12_init_23 : decode cX12_init 23 = .ok (.sipush 244, 3) := by decide +kernel
theorem dX12_init_26 : decode cX12_init 26 = .ok (.newarray .int, 2) := by decide +kernel
theorem dX12_init_28 : decode cX12_init 28 = .ok (.putfield 16, 3) := by decide +kernel
theorem dX12_init_31 : decode cX12_init 31 = .ok (.aload_n 0, 1) := by decide +kernel
theorem dX12_init_32 : decode cX12_init 32 = .ok (.sipush 244, 3) := by decide +kernel
theorem dX12_init_35 : decode cX12_init 35 = .ok (.newarray .int, 2) := by decide +kernel
theorem dX12_init_37 : decode cX12_init 37 = .ok (.putfield 19, 3) := by decide +kernel
theorem dX12_init_40 : decode cX12_init 40 = .ok (.aload_n 0, 1) := by decide +kernel
theorem dX12_init_41 : decode cX12_init 41 = .ok (.bipush 6, 2) := by decide +kernel
theorem dX12_init_43 : decode cX12_init 43 = .ok (.newarray .int, 2) := by decide +kernel
theorem dX12_init_45 : decode cX12_init 45 = .ok (.putfield 22, 3) := by decide +kernel
theorem dX12_init_48 : decode cX12_init 48 = .ok (.aload_n 0, 1) := by decide +kernel
theorem dX12_init_49 : decode cX12_init 49 = .ok (.iconst 4, 1) := by decide +kernel
theorem dX12_init_50 : decode cX12_init 50 = .ok (.newarray .int, 2) := by decide +kernel
theorem dX12_init_52 : decode cX12_init 52 = .ok (.putfield 25, 3) := by decide +kernel
theorem dX12_init_55 : decode cX12_init 55 = .ok (.aload_n 0, 1) := by decide +kernel
theorem dX12_init_56 : decode cX12_init 56 = .ok (.iconst 4, 1) := by decide +kernel
theorem dX12_init_57 : decode cX12_init 57 = .ok (.newarray .int, 2) := by decide +kernel
theorem dX12_init_59 : decode cX12_init 59 = .ok (.putfield 28, 3) := by decide +kernel
theorem dX12_init_62 : decode cX12_init 62 = .ok (.aload_n 0, 1) := by decide +kernel
theorem dX12_init_63 : decode cX12_init 63 = .ok (.sipush 160, 3) := by decide +kernel
theorem dX12_init_66 : decode cX12_init 66 = .ok (.newarray .int, 2) := by decide +kernel
theorem dX12_init_68 : decode cX12_init 68 = .ok (.putfield 31, 3) := by decide +kernel
theorem dX12_init_71 : decode cX12_init 71 = .ok (.aload_n 0, 1) := by decide +kernel
theorem dX12_init_72 : decode cX12_init 72 = .ok (.bipush 40, 2) := by decide +kernel
theorem dX12_init_74 : decode cX12_init 74 = .ok (.newarray .int, 2) := by decide +kernel
theorem dX12_init_76 : decode cX12_init 76 = .ok (.putfield 34, 3) := by decide +kernel
theorem dX12_init_79 : decode cX12_init 79 = .ok (.aload_n 0, 1) := by decide +kernel
theorem dX12_init_80 : decode cX12_init 80 = .ok (.bipush 40, 2) := by decide +kernel
theorem dX12_init_82 : decode cX12_init 82 = .ok (.newarray .int, 2) := by decide +kernel
theorem dX12_init_84 : decode cX12_init 84 = .ok (.putfield 37, 3) := by decide +kernel
theorem dX12_init_87 : decode cX12_init 87 = .ok (.aload_n 0, 1) := by decide +kernel
theorem dX12_init_88 : decode cX12_init 88 = .ok (.getfield 7, 3) := by decide +kernel
theorem dX12_init_91 : decode cX12_init 91 = .ok (.iconst 1, 1) := by decide +kernel
theorem dX12_init_92 : decode cX12_init 92 = .ok (.iconst 1, 1) := by decide +kernel
theorem dX12_init_93 : decode cX12_init 93 = .ok (.iastore, 1) := by decide +kernel
theorem dX12_init_94 : decode cX12_init 94 = .ok (.aload_n 0, 1) := by decide +kernel
theorem dX12_init_95 : decode cX12_init 95 = .ok (.getfield 7, 3) := by decide +kernel
theorem dX12_init_98 : decode cX12_init 98 = .ok (.bipush 6, 2) := by decide +kernel
theorem dX12_init_100 : decode cX12_init 100 = .ok (.iconst (-1), 1) := by decide +kernel
theorem dX12_init_101 : decode cX12_init 101 = .ok (.iastore, 1) := by decide +kernel
theorem dX12_init_102 : decode cX12_init 102 = .ok (.aload_n 0, 1) := by decide +kernel
theorem dX12_init_103 : decode cX12_init 103 = .ok (.getfield 7, 3) := by decide +kernel
theorem dX12_init_106 : decode cX12_init 106 = .ok (.bipush 7, 2) := by decide +kernel
theorem dX12_init_108 : decode cX12_init 108 = .ok (.iconst (-1), 1) := by decide +kernel
theorem dX12_init_109 : decode cX12_init 109 = .ok (.iastore, 1) := by decide +kernel
theorem dX12_init_110 : decode cX12_init 110 = .ok (.iconst 0, 1) := by decide +kernel
theorem dX12_init_111 : decode cX12_init 111 = .ok (.istore_n 1, 1) := by decide +kernel
theorem dX12_init_112 : decode cX12_init 112 = .ok (.iload_n 1, 1) := by decide +kernel
theorem dX12_init_113 : decode cX12_init 113 = .ok (.bipush 10, 2) := by decide +kernel
theorem dX12_init_115 : decode cX12_init 115 = .ok (.if_icmp .ge 19, 3) := by decide +kernel
theorem dX12_init_118 : decode cX12_init 118 = .ok (.aload_n 0, 1) := by decide +kernel
theorem dX12_init_119 : decode cX12_init 119 = .ok (.getfield 7, 3) := by decide +kernel
theorem dX12_init_122 : decode cX12_init 122 = .ok (.bipush 8, 2) := by decide +kernel
theorem dX12_init_124 : decode cX12_init 124 = .ok (.iload_n 1, 1) := by decide +kernel
theorem dX12_init_125 : decode cX12_init 125 = .ok (.iadd, 1) := by decide +kernel
theorem dX12_init_126 : decode cX12_init 126 = .ok (.iload_n 1, 1) := by decide +kernel
theorem dX12_init_127 : decode cX12_init 127 = .ok (.iastore, 1) := by decide +kernel
theorem dX12_init_128 : decode cX12_init 128 = .ok (.iinc 1 1, 3) := by decide +kernel
theorem dX12_init_131 : decode cX12_init 131 = .ok (.goto (-19), 3) := by decide +kernel
theorem dX12_init_134 : decode cX12_init 134 = .ok (.return_, 1) := by decide +kernel
theorem dX12_in_0 : decode cX12_in 0 = .ok (.iload_n 0, 1) := by decide +kernel
theorem dX12_in_1 : decode cX12_in 1 = .ok (.iload_n 1, 1) := by decide +kernel
theorem dX12_in_2 : decode cX12_in 2 = .ok (.if_icmp .lt 12, 3) := by decide +kernel
theorem dX12_in_5 : decode cX12_in 5 = .ok (.iload_n 0, 1) := by decide +kernel
theorem dX12_in_6 : decode cX12_in 6 = .ok (.iload_n 2, 1) := by decide +kernel
theorem dX12_in_7 : decode cX12_in 7 = .ok (.if_icmp .gt 7, 3) := by decide +kernel
theorem dX12_in_10 : decode cX12_in 10 = .ok (.iconst 1, 1) := by decide +kernel
theorem dX12_in_11 : decode cX12_in 11 = .ok (.goto 4, 3) := by decide +kernel
theorem dX12_in_14 : decode cX12_in 14 = .ok (.iconst 0, 1) := by decide +kernel
theorem dX12_in_15 : decode cX12_in 15 = .ok (.ireturn, 1) := by decide +kernel
theorem dX12_errs_0 : decode cX12_errs 0 = .ok (.aload_n 0, 1) := by decide +kernel
theorem dX12_errs_1 : decode cX12_errs 1 = .ok (.getfield 22, 3) := by decide +kernel
theorem dX12_errs_4 : decode cX12_errs 4 = .ok (.ldc 40, 2) := by decide +kernel
theorem dX12_errs_6 : decode cX12_errs 6 = .ok (.iload_n 1, 1) := by decide +kernel
theorem dX12_errs_7 : decode cX12_errs 7 = .ok (.isub, 1) := by decide +kernel
theorem dX12_errs_8 : decode cX12_errs 8 = .ok (.dup2, 1) := by decide +kernel
theorem dX12_errs_9 : decode cX12_errs 9 = .ok (.iaload, 1) := by decide +kernel
theorem dX12_errs_10 : decode cX12_errs 10 = .ok (.iconst 1, 1) := by decide +kernel
theorem dX12_errs_11 : decode cX12_errs 11 = .ok (.iadd, 1) := by decide +kernel
theorem dX12_errs_12 : decode cX12_errs 12 = .ok (.iastore, 1) := by decide +kernel
theorem dX12_errs_13 : decode cX12_errs 13 = .ok (.iload_n 1, 1) := by decide +kernel
theorem dX12_errs_14 : decode cX12_errs 14 = .ok (.ireturn, 1) := by decide +kernel
theorem dX12_held_0 : decode cX12_held 0 = .ok (.iload_n 0, 1) := by decide +kernel
theorem dX12_held_1 : decode cX12_held 1 = .ok (.iload_n 1, 1) := by decide +kernel
theorem dX12_held_2 : decode cX12_held 2 = .ok (.if_icmp .ge 7, 3) := by decide +kernel
theorem dX12_held_5 : decode cX12_held 5 = .ok (.iload_n 1, 1) := by decide +kernel
theorem dX12_held_6 : decode cX12_held 6 = .ok (.goto 13, 3) := by decide +kernel
theorem dX12_held_9 : decode cX12_held 9 = .ok (.iload_n 0, 1) := by decide +kernel
theorem dX12_held_10 : decode cX12_held 10 = .ok (.iload_n 2, 1) := by decide +kernel
theorem dX12_held_11 : decode cX12_held 11 = .ok (.if_icmp .le 7, 3) := by decide +kernel
theorem dX12_held_14 : decode cX12_held 14 = .ok (.iload_n 2, 1) := by decide +kernel
theorem dX12_held_15 : decode cX12_held 15 = .ok (.goto 4, 3) := by decide +kernel
theorem dX12_held_18 : decode cX12_held 18 = .ok (.iload_n 0, 1) := by decide +kernel
theorem dX12_held_19 : decode cX12_held 19 = .ok (.ireturn, 1) := by decide +kernel
theorem dX12_moveAll_0 : decode cX12_moveAll 0 = .ok (.iconst 0, 1) := by decide +kernel
theorem dX12_moveAll_1 : decode cX12_moveAll 1 = .ok (.istore_n 3, 1) := by decide +kernel
theorem dX12_moveAll_2 : decode cX12_moveAll 2 = .ok (.iload_n 3, 1) := by decide +kernel
theorem dX12_moveAll_3 : decode cX12_moveAll 3 = .ok (.sipush 244, 3) := by decide +kernel
theorem dX12_moveAll_6 : decode cX12_moveAll 6 = .ok (.if_icmp .ge 15, 3) := by decide +kernel
theorem dX12_moveAll_9 : decode cX12_moveAll 9 = .ok (.aload_n 2, 1) := by decide +kernel
theorem dX12_moveAll_10 : decode cX12_moveAll 10 = .ok (.iload_n 3, 1) := by decide +kernel
theorem dX12_moveAll_11 : decode cX12_moveAll 11 = .ok (.aload_n 1, 1) := by decide +kernel
theorem dX12_moveAll_12 : decode cX12_moveAll 12 = .ok (.iload_n 3, 1) := by decide +kernel
theorem dX12_moveAll_13 : decode cX12_moveAll 13 = .ok (.iaload, 1) := by decide +kernel
theorem dX12_moveAll_14 : decode cX12_moveAll 14 = .ok (.iastore, 1) := by decide +kernel
theorem dX12_moveAll_15 : decode cX12_moveAll 15 = .ok (.iinc 3 1, 3) := by decide +kernel
theorem dX12_moveAll_18 : decode cX12_moveAll 18 = .ok (.goto (-16), 3) := by decide +kernel
theorem dX12_moveAll_21 : decode cX12_moveAll 21 = .ok (.return_, 1) := by decide +kernel
theorem dX12_bits_0 : decode cX12_bits 0 = .ok (.iconst 0, 1) := by decide +kernel
theorem dX12_bits_1 : decode cX12_bits 1 = .ok (.istore_n 1, 1) := by decide +kernel
theorem dX12_bits_2 : decode cX12_bits 2 = .ok (.iload_n 0, 1) := by decide +kernel
theorem dX12_bits_3 : decode cX12_bits 3 = .ok (.istore_n 2, 1) := by decide +kernel
theorem dX12_bits_4 : decode cX12_bits 4 = .ok (.iload_n 2, 1) := by decide +kernel
theorem dX12_bits_5 : decode cX12_bits 5 = .ok (.ifCond .eq 15, 3) := by decide +kernel
theorem dX12_bits_8 : decode cX12_bits 8 = .ok (.iinc 1 1, 3) := by decide +kernel
theorem dX12_bits_11 : decode cX12_bits 11 = .ok (.iload_n 2, 1) := by decide +kernel
theorem dX12_bits_12 : decode cX12_bits 12 = .ok (.iload_n 2, 1) := by decide +kernel
theorem dX12_bits_13 : decode cX12_bits 13 = .ok (.iconst 1, 1) := by decide +kernel
theorem dX12_bits_14 : decode cX12_bits 14 = .ok (.isub, 1) := by decide +kernel
theorem dX12_bits_15 : decode cX12_bits 15 = .ok (.iand, 1) := by decide +kernel
theorem dX12_bits_16 : decode cX12_bits 16 = .ok (.istore_n 2, 1) := by decide +kernel
theorem dX12_bits_17 : decode cX12_bits 17 = .ok (.goto (-13), 3) := by decide +kernel
theorem dX12_bits_20 : decode cX12_bits 20 = .ok (.iload_n 1, 1) := by decide +kernel
theorem dX12_bits_21 : decode cX12_bits 21 = .ok (.ireturn, 1) := by decide +kernel
theorem dX12_its_0 : decode cX12_its 0 = .ok (.aload_n 0, 1) := by decide +kernel
theorem dX12_its_1 : decode cX12_its 1 = .ok (.getfield 7, 3) := by decide +kernel
theorem dX12_its_4 : decode cX12_its 4 = .ok (.bipush 18, 2) := by decide +kernel
theorem dX12_its_6 : decode cX12_its 6 = .ok (.iconst 4, 1) := by decide +kernel
theorem dX12_its_7 : decode cX12_its 7 = .ok (.iload_n 1, 1) := by decide +kernel
theorem dX12_its_8 : decode cX12_its 8 = .ok (.imul, 1) := by decide +kernel
theorem dX12_its_9 : decode cX12_its 9 = .ok (.iadd, 1) := by decide +kernel
theorem dX12_its_10 : decode cX12_its 10 = .ok (.iload_n 2, 1) := by decide +kernel
theorem dX12_its_11 : decode cX12_its 11 = .ok (.iadd, 1) := by decide +kernel
theorem dX12_its_12 : decode cX12_its 12 = .ok (.iaload, 1) := by decide +kernel
theorem dX12_its_13 : decode cX12_its 13 = .ok (.ireturn, 1) := by decide +kernel
theorem dX12_gets_0 : decode cX12_gets 0 = .ok (.aload_n 0, 1) := by decide +kernel
theorem dX12_gets_1 : decode cX12_gets 1 = .ok (.getfield 7, 3) := by decide +kernel
theorem dX12_gets_4 : decode cX12_gets 4 = .ok (.bipush 18, 2) := by decide +kernel
theorem dX12_gets_6 : decode cX12_gets 6 = .ok (.iconst 4, 1) := by decide +kernel
theorem dX12_gets_7 : decode cX12_gets 7 = .ok (.iload_n 1, 1) := by decide +kernel
theorem dX12_gets_8 : decode cX12_gets 8 = .ok (.imul, 1) := by decide +kernel
theorem dX12_gets_9 : decode cX12_gets 9 = .ok (.iadd, 1) := by decide +kernel
theorem dX12_gets_10 : decode cX12_gets 10 = .ok (.iload_n 2, 1) := by decide +kernel
theorem dX12_gets_11 : decode cX12_gets 11 = .ok (.iadd, 1) := by decide +kernel
theorem dX12_gets_12 : decode cX12_gets 12 = .ok (.iload_n 3, 1) := by decide +kernel
theorem dX12_gets_13 : decode cX12_gets 13 = .ok (.iastore, 1) := by decide +kernel
theorem dX12_gets_14 : decode cX12_gets 14 = .ok (.return_, 1) := by decide +kernel
theorem dX12_ones_0 : decode cX12_ones 0 = .ok (.aload_n 0, 1) := by decide +kernel
theorem dX12_ones_1 : decode cX12_ones 1 = .ok (.getfield 7, 3) := by decide +kernel
theorem dX12_ones_4 : decode cX12_ones 4 = .ok (.bipush 50, 2) := by decide +kernel
theorem dX12_ones_6 : decode cX12_ones 6 = .ok (.iconst 4, 1) := by decide +kernel
theorem dX12_ones_7 : decode cX12_ones 7 = .ok (.iload_n 1, 1) := by decide +kernel
theorem dX12_ones_8 : decode cX12_ones 8 = .ok (.imul, 1) := by decide +kernel
theorem dX12_ones_9 : decode cX12_ones 9 = .ok (.iadd, 1) := by decide +kernel
theorem dX12_ones_10 : decode cX12_ones 10 = .ok (.iload_n 2, 1) := by decide +kernel
theorem dX12_ones_11 : decode cX12_ones 11 = .ok (.iadd, 1) := by decide +kernel
theorem dX12_ones_12 : decode cX12_ones 12 = .ok (.iaload, 1) := by decide +kernel
theorem dX12_ones_13 : decode cX12_ones 13 = .ok (.ireturn, 1) := by decide +kernel
theorem dX12_puts_0 : decode cX12_puts 0 = .ok (.aload_n 0, 1) := by decide +kernel
theorem dX12_puts_1 : decode cX12_puts 1 = .ok (.getfield 7, 3) := by decide +kernel
theorem dX12_puts_4 : decode cX12_puts 4 = .ok (.bipush 50, 2) := by decide +kernel
theorem dX12_puts_6 : decode cX12_puts 6 = .ok (.iconst 4, 1) := by decide +kernel
theorem dX12_puts_7 : decode cX12_puts 7 = .ok (.iload_n 1, 1) := by decide +kernel
theorem dX12_puts_8 : decode cX12_puts 8 = .ok (.imul, 1) := by decide +kernel
theorem dX12_puts_9 : decode cX12_puts 9 = .ok (.iadd, 1) := by decide +kernel
theorem dX12_puts_10 : decode cX12_puts 10 = .ok (.iload_n 2, 1) := by decide +kernel
theorem dX12_puts_11 : decode cX12_puts 11 = .ok (.iadd, 1) := by decide +kernel
theorem dX12_puts_12 : decode cX12_puts 12 = .ok (.iload_n 3, 1) := by decide +kernel
theorem dX12_puts_13 : decode cX12_puts 13 = .ok (.iastore, 1) := by decide +kernel
theorem dX12_puts_14 : decode cX12_puts 14 = .ok (.return_, 1) := by decide +kernel
theorem dX12_isEye_0 : decode cX12_isEye 0 = .ok (.iload_n 1, 1) := by decide +kernel
theorem dX12_isEye_1 : decode cX12_isEye 1 = .ok (.iconst 0, 1) := by decide +kernel
theorem dX12_isEye_2 : decode cX12_isEye 2 = .ok (.aload_n 0, 1) := by decide +kernel
theorem dX12_isEye_3 : decode cX12_isEye 3 = .ok (.getfield 7, 3) := by decide +kernel
theorem dX12_isEye_6 : decode cX12_isEye 6 = .ok (.iconst 2, 1) := by decide +kernel
theorem dX12_isEye_7 : decode cX12_isEye 7 = .ok (.iaload, 1) := by decide +kernel
theorem dX12_isEye_8 : decode cX12_isEye 8 = .ok (.iconst 1, 1) := by decide +kernel
theorem dX12_isEye_9 : decode cX12_isEye 9 = .ok (.isub, 1) := by decide +kernel
theorem dX12_isEye_10 : decode cX12_isEye 10 = .ok (.invokestatic 41, 3) := by decide +kernel
theorem dX12_isEye_13 : decode cX12_isEye 13 = .ok (.ireturn, 1) := by decide +kernel
theorem dX12_isWearer_0 : decode cX12_isWearer 0 = .ok (.iload_n 1, 1) := by decide +kernel
theorem dX12_isWearer_1 : decode cX12_isWearer 1 = .ok (.iconst 0, 1) := by decide +kernel
theorem dX12_isWearer_2 : decode cX12_isWearer 2 = .ok (.aload_n 0, 1) := by decide +kernel
theorem dX12_isWearer_3 : decode cX12_isWearer 3 = .ok (.getfield 7, 3) := by decide +kernel
theorem dX12_isWearer_6 : decode cX12_isWearer 6 = .ok (.iconst 3, 1) := by decide +kernel
theorem dX12_isWearer_7 : decode cX12_isWearer 7 = .ok (.iaload, 1) := by decide +kernel
theorem dX12_isWearer_8 : decode cX12_isWearer 8 = .ok (.iconst 1, 1) := by decide +kernel
theorem dX12_isWearer_9 : decode cX12_isWearer 9 = .ok (.isub, 1) := by decide +kernel
theorem dX12_isWearer_10 : decode cX12_isWearer 10 = .ok (.invokestatic 41, 3) := by decide +kernel
theorem dX12_isWearer_13 : decode cX12_isWearer 13 = .ok (.ireturn, 1) := by decide +kernel
theorem dX12_isThing_0 : decode cX12_isThing 0 = .ok (.iload_n 0, 1) := by decide +kernel
theorem dX12_isThing_1 : decode cX12_isThing 1 = .ok (.iconst 0, 1) := by decide +kernel
theorem dX12_isThing_2 : decode cX12_isThing 2 = .ok (.bipush 9, 2) := by decide +kernel
theorem dX12_isThing_4 : decode cX12_isThing 4 = .ok (.invokestatic 41, 3) := by decide +kernel
theorem dX12_isThing_7 : decode cX12_isThing 7 = .ok (.ireturn, 1) := by decide +kernel
theorem dX12_becomes_0 : decode cX12_becomes 0 = .ok (.aload_n 0, 1) := by decide +kernel
theorem dX12_becomes_1 : decode cX12_becomes 1 = .ok (.getfield 7, 3) := by decide +kernel
theorem dX12_becomes_4 : decode cX12_becomes 4 = .ok (.iload_n 1, 1) := by decide +kernel
theorem dX12_becomes_5 : decode cX12_becomes 5 = .ok (.iaload, 1) := by decide +kernel
theorem dX12_becomes_6 : decode cX12_becomes 6 = .ok (.istore_n 3, 1) := by decide +kernel
theorem dX12_becomes_7 : decode cX12_becomes 7 = .ok (.aload_n 0, 1) := by decide +kernel
theorem dX12_becomes_8 : decode cX12_becomes 8 = .ok (.getfield 7, 3) := by decide +kernel
theorem dX12_becomes_11 : decode cX12_becomes 11 = .ok (.iload_n 1, 1) := by decide +kernel
theorem dX12_becomes_12 : decode cX12_becomes 12 = .ok (.iload_n 2, 1) := by decide +kernel
theorem dX12_becomes_13 : decode cX12_becomes 13 = .ok (.iastore, 1) := by decide +kernel
theorem dX12_becomes_14 : decode cX12_becomes 14 = .ok (.iload_n 3, 1) := by decide +kernel
theorem dX12_becomes_15 : decode cX12_becomes 15 = .ok (.ireturn, 1) := by decide +kernel
theorem dX12_dread_0 : decode cX12_dread 0 = .ok (.iload_n 1, 1) := by decide +kernel
theorem dX12_dread_1 : decode cX12_dread 1 = .ok (.invokestatic 45, 3) := by decide +kernel
theorem dX12_dread_4 : decode cX12_dread 4 = .ok (.ifCond .eq 25, 3) := by decide +kernel
theorem dX12_dread_7 : decode cX12_dread 7 = .ok (.iload_n 2, 1) := by decide +kernel
theorem dX12_dread_8 : decode cX12_dread 8 = .ok (.iconst 0, 1) := by decide +kernel
theorem dX12_dread_9 : decode cX12_dread 9 = .ok (.bipush 9, 2) := by decide +kernel
theorem dX12_dread_11 : decode cX12_dread 11 = .ok (.invokestatic 41, 3) := by decide +kernel
theorem dX12_dread_14 : decode cX12_dread 14 = .ok (.ifCond .eq 15, 3) := by decide +kernel
theorem dX12_dread_17 : decode cX12_dread 17 = .ok (.aload_n 0, 1) := by decide +kernel
theorem dX12_dread_18 : decode cX12_dread 18 = .ok (.bipush 8, 2) := by decide +kernel
theorem dX12_dread_20 : decode cX12_dread 20 = .ok (.iload_n 1, 1) := by decide +kernel
theorem dX12_dread_21 : decode cX12_dread 21 = .ok (.iadd, 1) := by decide +kernel
theorem dX12_dread_22 : decode cX12_dread 22 = .ok (.iload_n 2, 1) := by decide +kernel
theorem dX12_dread_23 : decode cX12_dread 23 = .ok (.invokevirtual 49, 3) := by decide +kernel
theorem dX12_dread_26 : decode cX12_dread 26 = .ok (.goto 9, 3) := by decide +kernel
theorem dX12_dread_29 : decode cX12_dread 29 = .ok (.aload_n 0, 1) := by decide +kernel
theorem dX12_dread_30 : decode cX12_dread 30 = .ok (.ldc 53, 2) := by decide +kernel
theorem dX12_dread_32 : decode cX12_dread 32 = .ok (.invokevirtual 54, 3) := by decide +kernel
theorem dX12_dread_35 : decode cX12_dread 35 = .ok (.ireturn, 1) := by decide +kernel
theorem dX12_eye_0 : decode cX12_eye 0 = .ok (.iload_n 1, 1) := by decide +kernel
theorem dX12_eye_1 : decode cX12_eye 1 = .ok (.iconst 0, 1) := by decide +kernel
theorem dX12_eye_2 : decode cX12_eye 2 = .ok (.bipush 69, 2) := by decide +kernel
theorem dX12_eye_4 : decode cX12_eye 4 = .ok (.invokestatic 41, 3) := by decide +kernel
theorem dX12_eye_7 : decode cX12_eye 7 = .ok (.ifCond .eq 13, 3) := by decide +kernel
theorem dX12_eye_10 : decode cX12_eye 10 = .ok (.iload_n 2, 1) := by decide +kernel
theorem dX12_eye_11 : decode cX12_eye 11 = .ok (.iconst 0, 1) := by decide +kernel
theorem dX12_eye_12 : decode cX12_eye 12 = .ok (.bipush 9, 2) := by decide +kernel
theorem dX12_eye_14 : decode cX12_eye 14 = .ok (.invokestatic 41, 3) := by decide +kernel
theorem dX12_eye_17 : decode cX12_eye 17 = .ok (.ifCond .ne 10, 3) := by decide +kernel
theorem dX12_eye_20 : decode cX12_eye 20 = .ok (.aload_n 0, 1) := by decide +kernel
theorem dX12_eye_21 : decode cX12_eye 21 = .ok (.ldc 53, 2) := by decide +kernel
theorem dX12_eye_23 : decode cX12_eye 23 = .ok (.invokevirtual 54, 3) := by decide +kernel
theorem dX12_eye_26 : decode cX12_eye 26 = .ok (.ireturn, 1) := by decide +kernel
theorem dX12_eye_27 : decode cX12_eye 27 = .ok (.aload_n 0, 1) := by decide +kernel
theorem dX12_eye_28 : decode cX12_eye 28 = .ok (.getfield 7, 3) := by decide +kernel
theorem dX12_eye_31 : decode cX12_eye 31 = .ok (.iconst 2, 1) := by decide +kernel
theorem dX12_eye_32 : decode cX12_eye 32 = .ok (.iaload, 1) := by decide +kernel
theorem dX12_eye_33 : decode cX12_eye 33 = .ok (.bipush 8, 2) := by decide +kernel
theorem dX12_eye_35 : decode cX12_eye 35 = .ok (.if_icmp .ne 10, 3) := by decide +kernel
theorem dX12_eye_38 : decode cX12_eye 38 = .ok (.aload_n 0, 1) := by decide +kernel
theorem dX12_eye_39 : decode cX12_eye 39 = .ok (.ldc 58, 2) := by decide +kernel
theorem dX12_eye_41 : decode cX12_eye 41 = .ok (.invokevirtual 54, 3) := by decide +kernel
theorem dX12_eye_44 : decode cX12_eye 44 = .ok (.ireturn, 1) := by decide +kernel
theorem dX12_eye_45 : decode cX12_eye 45 = .ok (.aload_n 0, 1) := by decide +kernel
theorem dX12_eye_46 : decode cX12_eye 46 = .ok (.getfield 7, 3) := by decide +kernel
theorem dX12_eye_49 : decode cX12_eye 49 = .ok (.iconst 2, 1) := by decide +kernel
theorem dX12_eye_50 : decode cX12_eye 50 = .ok (.iaload, 1) := by decide +kernel
