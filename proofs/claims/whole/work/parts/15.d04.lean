theorem dX12_eye_51 : decode cX12_eye 51 = .ok (.istore_n 3, 1) := by decide +kernel
theorem dX12_eye_52 : decode cX12_eye 52 = .ok (.aload_n 0, 1) := by decide +kernel
theorem dX12_eye_53 : decode cX12_eye 53 = .ok (.iload_n 3, 1) := by decide +kernel
theorem dX12_eye_54 : decode cX12_eye 54 = .ok (.iconst 0, 1) := by decide +kernel
theorem dX12_eye_55 : decode cX12_eye 55 = .ok (.iload_n 1, 1) := by decide +kernel
theorem dX12_eye_56 : decode cX12_eye 56 = .ok (.bipush 10, 2) := by decide +kernel
theorem dX12_eye_58 : decode cX12_eye 58 = .ok (.idiv, 1) := by decide +kernel
theorem dX12_eye_59 : decode cX12_eye 59 = .ok (.invokevirtual 59, 3) := by decide +kernel
theorem dX12_eye_62 : decode cX12_eye 62 = .ok (.aload_n 0, 1) := by decide +kernel
theorem dX12_eye_63 : decode cX12_eye 63 = .ok (.iload_n 3, 1) := by decide +kernel
theorem dX12_eye_64 : decode cX12_eye 64 = .ok (.iconst 1, 1) := by decide +kernel
theorem dX12_eye_65 : decode cX12_eye 65 = .ok (.iload_n 1, 1) := by decide +kernel
theorem dX12_eye_66 : decode cX12_eye 66 = .ok (.bipush 10, 2) := by decide +kernel
theorem dX12_eye_68 : decode cX12_eye 68 = .ok (.irem, 1) := by decide +kernel
theorem dX12_eye_69 : decode cX12_eye 69 = .ok (.invokevirtual 59, 3) := by decide +kernel
theorem dX12_eye_72 : decode cX12_eye 72 = .ok (.aload_n 0, 1) := by decide +kernel
theorem dX12_eye_73 : decode cX12_eye 73 = .ok (.iload_n 3, 1) := by decide +kernel
theorem dX12_eye_74 : decode cX12_eye 74 = .ok (.iconst 2, 1) := by decide +kernel
theorem dX12_eye_75 : decode cX12_eye 75 = .ok (.iload_n 2, 1) := by decide +kernel
theorem dX12_eye_76 : decode cX12_eye 76 = .ok (.invokevirtual 59, 3) := by decide +kernel
theorem dX12_eye_79 : decode cX12_eye 79 = .ok (.aload_n 0, 1) := by decide +kernel
theorem dX12_eye_80 : decode cX12_eye 80 = .ok (.iload_n 3, 1) := by decide +kernel
theorem dX12_eye_81 : decode cX12_eye 81 = .ok (.iconst 3, 1) := by decide +kernel
theorem dX12_eye_82 : decode cX12_eye 82 = .ok (.iconst 0, 1) := by decide +kernel
theorem dX12_eye_83 : decode cX12_eye 83 = .ok (.invokevirtual 59, 3) := by decide +kernel
theorem dX12_eye_86 : decode cX12_eye 86 = .ok (.aload_n 0, 1) := by decide +kernel
theorem dX12_eye_87 : decode cX12_eye 87 = .ok (.getfield 7, 3) := by decide +kernel
theorem dX12_eye_90 : decode cX12_eye 90 = .ok (.iconst 2, 1) := by decide +kernel
theorem dX12_eye_91 : decode cX12_eye 91 = .ok (.dup2, 1) := by decide +kernel
theorem dX12_eye_92 : decode cX12_eye 92 = .ok (.iaload, 1) := by decide +kernel
theorem dX12_eye_93 : decode cX12_eye 93 = .ok (.iconst 1, 1) := by decide +kernel
theorem dX12_eye_94 : decode cX12_eye 94 = .ok (.iadd, 1) := by decide +kernel
theorem dX12_eye_95 : decode cX12_eye 95 = .ok (.iastore, 1) := by decide +kernel
theorem dX12_eye_96 : decode cX12_eye 96 = .ok (.iload_n 3, 1) := by decide +kernel
theorem dX12_eye_97 : decode cX12_eye 97 = .ok (.ireturn, 1) := by decide +kernel
theorem dX12_wornBy_0 : decode cX12_wornBy 0 = .ok (.iconst (-1), 1) := by decide +kernel
theorem dX12_wornBy_1 : decode cX12_wornBy 1 = .ok (.istore_n 2, 1) := by decide +kernel
theorem dX12_wornBy_2 : decode cX12_wornBy 2 = .ok (.iconst 0, 1) := by decide +kernel
theorem dX12_wornBy_3 : decode cX12_wornBy 3 = .ok (.istore_n 3, 1) := by decide +kernel
theorem dX12_wornBy_4 : decode cX12_wornBy 4 = .ok (.iload_n 3, 1) := by decide +kernel
theorem dX12_wornBy_5 : decode cX12_wornBy 5 = .ok (.aload_n 0, 1) := by decide +kernel
theorem dX12_wornBy_6 : decode cX12_wornBy 6 = .ok (.getfield 7, 3) := by decide +kernel
theorem dX12_wornBy_9 : decode cX12_wornBy 9 = .ok (.iconst 3, 1) := by decide +kernel
theorem dX12_wornBy_10 : decode cX12_wornBy 10 = .ok (.iaload, 1) := by decide +kernel
theorem dX12_wornBy_11 : decode cX12_wornBy 11 = .ok (.if_icmp .ge 47, 3) := by decide +kernel
theorem dX12_wornBy_14 : decode cX12_wornBy 14 = .ok (.aload_n 0, 1) := by decide +kernel
theorem dX12_wornBy_15 : decode cX12_wornBy 15 = .ok (.iload_n 3, 1) := by decide +kernel
theorem dX12_wornBy_16 : decode cX12_wornBy 16 = .ok (.iconst 0, 1) := by decide +kernel
theorem dX12_wornBy_17 : decode cX12_wornBy 17 = .ok (.invokevirtual 63, 3) := by decide +kernel
theorem dX12_wornBy_20 : decode cX12_wornBy 20 = .ok (.iload_n 1, 1) := by decide +kernel
theorem dX12_wornBy_21 : decode cX12_wornBy 21 = .ok (.if_icmp .ne 10, 3) := by decide +kernel
theorem dX12_wornBy_24 : decode cX12_wornBy 24 = .ok (.bipush 10, 2) := by decide +kernel
theorem dX12_wornBy_26 : decode cX12_wornBy 26 = .ok (.iload_n 3, 1) := by decide +kernel
theorem dX12_wornBy_27 : decode cX12_wornBy 27 = .ok (.imul, 1) := by decide +kernel
theorem dX12_wornBy_28 : decode cX12_wornBy 28 = .ok (.goto 23, 3) := by decide +kernel
theorem dX12_wornBy_31 : decode cX12_wornBy 31 = .ok (.aload_n 0, 1) := by decide +kernel
theorem dX12_wornBy_32 : decode cX12_wornBy 32 = .ok (.iload_n 3, 1) := by decide +kernel
theorem dX12_wornBy_33 : decode cX12_wornBy 33 = .ok (.iconst 1, 1) := by decide +kernel
theorem dX12_wornBy_34 : decode cX12_wornBy 34 = .ok (.invokevirtual 63, 3) := by decide +kernel
theorem dX12_wornBy_37 : decode cX12_wornBy 37 = .ok (.iload_n 1, 1) := by decide +kernel
theorem dX12_wornBy_38 : decode cX12_wornBy 38 = .ok (.if_icmp .ne 12, 3) := by decide +kernel
theorem dX12_wornBy_41 : decode cX12_wornBy 41 = .ok (.bipush 10, 2) := by decide +kernel
theorem dX12_wornBy_43 : decode cX12_wornBy 43 = .ok (.iload_n 3, 1) := by decide +kernel
theorem dX12_wornBy_44 : decode cX12_wornBy 44 = .ok (.imul, 1) := by decide +kernel
theorem dX12_wornBy_45 : decode cX12_wornBy 45 = .ok (.iconst 1, 1) := by decide +kernel
theorem dX12_wornBy_46 : decode cX12_wornBy 46 = .ok (.iadd, 1) := by decide +kernel
theorem dX12_wornBy_47 : decode cX12_wornBy 47 = .ok (.goto 4, 3) := by decide +kernel
theorem dX12_wornBy_50 : decode cX12_wornBy 50 = .ok (.iload_n 2, 1) := by decide +kernel
theorem dX12_wornBy_51 : decode cX12_wornBy 51 = .ok (.istore_n 2, 1) := by decide +kernel
theorem dX12_wornBy_52 : decode cX12_wornBy 52 = .ok (.iinc 3 1, 3) := by decide +kernel
theorem dX12_wornBy_55 : decode cX12_wornBy 55 = .ok (.goto (-51), 3) := by decide +kernel
theorem dX12_wornBy_58 : decode cX12_wornBy 58 = .ok (.iload_n 2, 1) := by decide +kernel
theorem dX12_wornBy_59 : decode cX12_wornBy 59 = .ok (.ireturn, 1) := by decide +kernel
theorem dX12_ofEye_0 : decode cX12_ofEye 0 = .ok (.aload_n 0, 1) := by decide +kernel
theorem dX12_ofEye_1 : decode cX12_ofEye 1 = .ok (.iload_n 1, 1) := by decide +kernel
theorem dX12_ofEye_2 : decode cX12_ofEye 2 = .ok (.invokevirtual 66, 3) := by decide +kernel
theorem dX12_ofEye_5 : decode cX12_ofEye 5 = .ok (.ifCond .eq 13, 3) := by decide +kernel
theorem dX12_ofEye_8 : decode cX12_ofEye 8 = .ok (.iload_n 2, 1) := by decide +kernel
theorem dX12_ofEye_9 : decode cX12_ofEye 9 = .ok (.iconst 0, 1) := by decide +kernel
theorem dX12_ofEye_10 : decode cX12_ofEye 10 = .ok (.bipush 6, 2) := by decide +kernel
theorem dX12_ofEye_12 : decode cX12_ofEye 12 = .ok (.invokestatic 41, 3) := by decide +kernel
theorem dX12_ofEye_15 : decode cX12_ofEye 15 = .ok (.ifCond .ne 10, 3) := by decide +kernel
theorem dX12_ofEye_18 : decode cX12_ofEye 18 = .ok (.aload_n 0, 1) := by decide +kernel
theorem dX12_ofEye_19 : decode cX12_ofEye 19 = .ok (.ldc 53, 2) := by decide +kernel
theorem dX12_ofEye_21 : decode cX12_ofEye 21 = .ok (.invokevirtual 54, 3) := by decide +kernel
theorem dX12_ofEye_24 : decode cX12_ofEye 24 = .ok (.ireturn, 1) := by decide +kernel
theorem dX12_ofEye_25 : decode cX12_ofEye 25 = .ok (.iload_n 2, 1) := by decide +kernel
theorem dX12_ofEye_26 : decode cX12_ofEye 26 = .ok (.iconst 4, 1) := by decide +kernel
theorem dX12_ofEye_27 : decode cX12_ofEye 27 = .ok (.if_icmp .ge 12, 3) := by decide +kernel
theorem dX12_ofEye_30 : decode cX12_ofEye 30 = .ok (.aload_n 0, 1) := by decide +kernel
theorem dX12_ofEye_31 : decode cX12_ofEye 31 = .ok (.iload_n 1, 1) := by decide +kernel
theorem dX12_ofEye_32 : decode cX12_ofEye 32 = .ok (.iload_n 2, 1) := by decide +kernel
theorem dX12_ofEye_33 : decode cX12_ofEye 33 = .ok (.invokevirtual 69, 3) := by decide +kernel
theorem dX12_ofEye_36 : decode cX12_ofEye 36 = .ok (.goto 34, 3) := by decide +kernel
theorem dX12_ofEye_39 : decode cX12_ofEye 39 = .ok (.iload_n 2, 1) := by decide +kernel
theorem dX12_ofEye_40 : decode cX12_ofEye 40 = .ok (.iconst 4, 1) := by decide +kernel
theorem dX12_ofEye_41 : decode cX12_ofEye 41 = .ok (.if_icmp .ne 11, 3) := by decide +kernel
theorem dX12_ofEye_44 : decode cX12_ofEye 44 = .ok (.aload_n 0, 1) := by decide +kernel
theorem dX12_ofEye_45 : decode cX12_ofEye 45 = .ok (.iload_n 1, 1) := by decide +kernel
theorem dX12_ofEye_46 : decode cX12_ofEye 46 = .ok (.invokevirtual 72, 3) := by decide +kernel
theorem dX12_ofEye_49 : decode cX12_ofEye 49 = .ok (.goto 21, 3) := by decide +kernel
theorem dX12_ofEye_52 : decode cX12_ofEye 52 = .ok (.iload_n 2, 1) := by decide +kernel
theorem dX12_ofEye_53 : decode cX12_ofEye 53 = .ok (.iconst 5, 1) := by decide +kernel
theorem dX12_ofEye_54 : decode cX12_ofEye 54 = .ok (.if_icmp .ne 11, 3) := by decide +kernel
theorem dX12_ofEye_57 : decode cX12_ofEye 57 = .ok (.aload_n 0, 1) := by decide +kernel
theorem dX12_ofEye_58 : decode cX12_ofEye 58 = .ok (.iload_n 1, 1) := by decide +kernel
theorem dX12_ofEye_59 : decode cX12_ofEye 59 = .ok (.invokevirtual 75, 3) := by decide +kernel
theorem dX12_ofEye_62 : decode cX12_ofEye 62 = .ok (.goto 8, 3) := by decide +kernel
theorem dX12_ofEye_65 : decode cX12_ofEye 65 = .ok (.aload_n 0, 1) := by decide +kernel
theorem dX12_ofEye_66 : decode cX12_ofEye 66 = .ok (.iload_n 1, 1) := by decide +kernel
theorem dX12_ofEye_67 : decode cX12_ofEye 67 = .ok (.invokevirtual 78, 3) := by decide +kernel
theorem dX12_ofEye_70 : decode cX12_ofEye 70 = .ok (.ireturn, 1) := by decide +kernel
theorem dX12_change_0 : decode cX12_change 0 = .ok (.iload_n 2, 1) := by decide +kernel
theorem dX12_change_1 : decode cX12_change 1 = .ok (.ifCond .ne 13, 3) := by decide +kernel
theorem dX12_change_4 : decode cX12_change 4 = .ok (.iload_n 3, 1) := by decide +kernel
theorem dX12_change_5 : decode cX12_change 5 = .ok (.iconst 0, 1) := by decide +kernel
theorem dX12_change_6 : decode cX12_change 6 = .ok (.bipush 9, 2) := by decide +kernel
theorem dX12_change_8 : decode cX12_change 8 = .ok (.invokestatic 41, 3) := by decide +kernel
theorem dX12_change_11 : decode cX12_change 11 = .ok (.goto 24, 3) := by decide +kernel
theorem dX12_change_14 : decode cX12_change 14 = .ok (.iload_n 2, 1) := by decide +kernel
theorem dX12_change_15 : decode cX12_change 15 = .ok (.iconst 1, 1) := by decide +kernel
theorem dX12_change_16 : decode cX12_change 16 = .ok (.if_icmp .ne 18, 3) := by decide +kernel
theorem dX12_change_19 : decode cX12_change 19 = .ok (.iload_n 3, 1) := by decide +kernel
theorem dX12_change_20 : decode cX12_change 20 = .ok (.iconst 0, 1) := by decide +kernel
theorem dX12_change_21 : decode cX12_change 21 = .ok (.sipush 9999, 3) := by decide +kernel
theorem dX12_change_24 : decode cX12_change 24 = .ok (.invokestatic 41, 3) := by decide +kernel
theorem dX12_change_27 : decode cX12_change 27 = .ok (.ifCond .eq 7, 3) := by decide +kernel
theorem dX12_change_30 : decode cX12_change 30 = .ok (.iconst 1, 1) := by decide +kernel
theorem dX12_change_31 : decode cX12_change 31 = .ok (.goto 4, 3) := by decide +kernel
theorem dX12_change_34 : decode cX12_change 34 = .ok (.iconst 0, 1) := by decide +kernel
theorem dX12_change_35 : decode cX12_change 35 = .ok (.istore 4, 2) := by decide +kernel
theorem dX12_change_37 : decode cX12_change 37 = .ok (.aload_n 0, 1) := by decide +kernel
theorem dX12_change_38 : decode cX12_change 38 = .ok (.iload_n 1, 1) := by decide +kernel
theorem dX12_change_39 : decode cX12_change 39 = .ok (.invokevirtual 66, 3) := by decide +kernel
theorem dX12_change_42 : decode cX12_change 42 = .ok (.ifCond .eq 26, 3) := by decide +kernel
theorem dX12_change_45 : decode cX12_change 45 = .ok (.iload 4, 2) := by decide +kernel
theorem dX12_change_47 : decode cX12_change 47 = .ok (.ifCond .eq 21, 3) := by decide +kernel
theorem dX12_change_50 : decode cX12_change 50 = .ok (.aload_n 0, 1) := by decide +kernel
theorem dX12_change_51 : decode cX12_change 51 = .ok (.bipush 18, 2) := by decide +kernel
theorem dX12_change_53 : decode cX12_change 53 = .ok (.iconst 4, 1) := by decide +kernel
theorem dX12_change_54 : decode cX12_change 54 = .ok (.iload_n 1, 1) := by decide +kernel
theorem dX12_change_55 : decode cX12_change 55 = .ok (.imul, 1) := by decide +kernel
theorem dX12_change_56 : decode cX12_change 56 = .ok (.iadd, 1) := by decide +kernel
theorem dX12_change_57 : decode cX12_change 57 = .ok (.iconst 2, 1) := by decide +kernel
theorem dX12_change_58 : decode cX12_change 58 = .ok (.iadd, 1) := by decide +kernel
theorem dX12_change_59 : decode cX12_change 59 = .ok (.iload_n 2, 1) := by decide +kernel
theorem dX12_change_60 : decode cX12_change 60 = .ok (.iadd, 1) := by decide +kernel
theorem dX12_change_61 : decode cX12_change 61 = .ok (.iload_n 3, 1) := by decide +kernel
theorem dX12_change_62 : decode cX12_change 62 = .ok (.invokevirtual 49, 3) := by decide +kernel
theorem dX12_change_65 : decode cX12_change 65 = .ok (.goto 9, 3) := by decide +kernel
theorem dX12_change_68 : decode cX12_change 68 = .ok (.aload_n 0, 1) := by decide +kernel
theorem dX12_change_69 : decode cX12_change 69 = .ok (.ldc 53, 2) := by decide +kernel
theorem dX12_change_71 : decode cX12_change 71 = .ok (.invokevirtual 54, 3) := by decide +kernel
theorem dX12_change_74 : decode cX12_change 74 = .ok (.ireturn, 1) := by decide +kernel
theorem dX12_wearer_0 : decode cX12_wearer 0 = .ok (.aload_n 0, 1) := by decide +kernel
theorem dX12_wearer_1 : decode cX12_wearer 1 = .ok (.getfield 7, 3) := by decide +kernel
theorem dX12_wearer_4 : decode cX12_wearer 4 = .ok (.iconst 3, 1) := by decide +kernel
theorem dX12_wearer_5 : decode cX12_wearer 5 = .ok (.iaload, 1) := by decide +kernel
theorem dX12_wearer_6 : decode cX12_wearer 6 = .ok (.bipush 6, 2) := by decide +kernel
theorem dX12_wearer_8 : decode cX12_wearer 8 = .ok (.if_icmp .ne 10, 3) := by decide +kernel
theorem dX12_wearer_11 : decode cX12_wearer 11 = .ok (.aload_n 0, 1) := by decide +kernel
theorem dX12_wearer_12 : decode cX12_wearer 12 = .ok (.ldc 58, 2) := by decide +kernel
theorem dX12_wearer_14 : decode cX12_wearer 14 = .ok (.invokevirtual 54, 3) := by decide +kernel
theorem dX12_wearer_17 : decode cX12_wearer 17 = .ok (.ireturn, 1) := by decide +kernel
theorem dX12_wearer_18 : decode cX12_wearer 18 = .ok (.aload_n 0, 1) := by decide +kernel
theorem dX12_wearer_19 : decode cX12_wearer 19 = .ok (.getfield 7, 3) := by decide +kernel
theorem dX12_wearer_22 : decode cX12_wearer 22 = .ok (.iconst 3, 1) := by decide +kernel
theorem dX12_wearer_23 : decode cX12_wearer 23 = .ok (.iaload, 1) := by decide +kernel
theorem dX12_wearer_24 : decode cX12_wearer 24 = .ok (.istore_n 1, 1) := by decide +kernel
theorem dX12_wearer_25 : decode cX12_wearer 25 = .ok (.aload_n 0, 1) := by decide +kernel
theorem dX12_wearer_26 : decode cX12_wearer 26 = .ok (.iload_n 1, 1) := by decide +kernel
theorem dX12_wearer_27 : decode cX12_wearer 27 = .ok (.iconst 0, 1) := by decide +kernel
theorem dX12_wearer_28 : decode cX12_wearer 28 = .ok (.iconst (-1), 1) := by decide +kernel
theorem dX12_wearer_29 : decode cX12_wearer 29 = .ok (.invokevirtual 81, 3) := by decide +kernel
theorem dX12_wearer_32 : decode cX12_wearer 32 = .ok (.aload_n 0, 1) := by decide +kernel
theorem dX12_wearer_33 : decode cX12_wearer 33 = .ok (.iload_n 1, 1) := by decide +kernel
theorem dX12_wearer_34 : decode cX12_wearer 34 = .ok (.iconst 1, 1) := by decide +kernel
theorem dX12_wearer_35 : decode cX12_wearer 35 = .ok (.iconst (-1), 1) := by decide +kernel
theorem dX12_wearer_36 : decode cX12_wearer 36 = .ok (.invokevirtual 81, 3) := by decide +kernel
theorem dX12_wearer_39 : decode cX12_wearer 39 = .ok (.aload_n 0, 1) := by decide +kernel
theorem dX12_wearer_40 : decode cX12_wearer 40 = .ok (.iload_n 1, 1) := by decide +kernel
theorem dX12_wearer_41 : decode cX12_wearer 41 = .ok (.iconst 2, 1) := by decide +kernel
theorem dX12_wearer_42 : decode cX12_wearer 42 = .ok (.bipush 20, 2) := by decide +kernel
theorem dX12_wearer_44 : decode cX12_wearer 44 = .ok (.invokevirtual 81, 3) := by decide +kernel
theorem dX12_wearer_47 : decode cX12_wearer 47 = .ok (.aload_n 0, 1) := by decide +kernel
theorem dX12_wearer_48 : decode cX12_wearer 48 = .ok (.iload_n 1, 1) := by decide +kernel
theorem dX12_wearer_49 : decode cX12_wearer 49 = .ok (.iconst 3, 1) := by decide +kernel
theorem dX12_wearer_50 : decode cX12_wearer 50 = .ok (.iconst 0, 1) := by decide +kernel
theorem dX12_wearer_51 : decode cX12_wearer 51 = .ok (.invokevirtual 81, 3) := by decide +kernel
theorem dX12_wearer_54 : decode cX12_wearer 54 = .ok (.aload_n 0, 1) := by decide +kernel
theorem dX12_wearer_55 : decode cX12_wearer 55 = .ok (.getfield 7, 3) := by decide +kernel
theorem dX12_wearer_58 : decode cX12_wearer 58 = .ok (.iconst 3, 1) := by decide +kernel
theorem dX12_wearer_59 : decode cX12_wearer 59 = .ok (.dup2, 1) := by decide +kernel
theorem dX12_wearer_60 : decode cX12_wearer 60 = .ok (.iaload, 1) := by decide +kernel
theorem dX12_wearer_61 : decode cX12_wearer 61 = .ok (.iconst 1, 1) := by decide +kernel
theorem dX12_wearer_62 : decode cX12_wearer 62 = .ok (.iadd, 1) := by decide +kernel
theorem dX12_wearer_63 : decode cX12_wearer 63 = .ok (.iastore, 1) := by decide +kernel
theorem dX12_wearer_64 : decode cX12_wearer 64 = .ok (.iload_n 1, 1) := by decide +kernel
theorem dX12_wearer_65 : decode cX12_wearer 65 = .ok (.ireturn, 1) := by decide +kernel
theorem dX12_ofWearer_0 : decode cX12_ofWearer 0 = .ok (.aload_n 0, 1) := by decide +kernel
theorem dX12_ofWearer_1 : decode cX12_ofWearer 1 = .ok (.iload_n 1, 1) := by decide +kernel
theorem dX12_ofWearer_2 : decode cX12_ofWearer 2 = .ok (.invokevirtual 84, 3) := by decide +kernel
theorem dX12_ofWearer_5 : decode cX12_ofWearer 5 = .ok (.ifCond .eq 12, 3) := by decide +kernel
theorem dX12_ofWearer_8 : decode cX12_ofWearer 8 = .ok (.iload_n 2, 1) := by decide +kernel
theorem dX12_ofWearer_9 : decode cX12_ofWearer 9 = .ok (.iconst 0, 1) := by decide +kernel
theorem dX12_ofWearer_10 : decode cX12_ofWearer 10 = .ok (.iconst 4, 1) := by decide +kernel
theorem dX12_ofWearer_11 : decode cX12_ofWearer 11 = .ok (.invokestatic 41, 3) := by decide +kernel
theorem dX12_ofWearer_14 : decode cX12_ofWearer 14 = .ok (.ifCond .ne 10, 3) := by decide +kernel
theorem dX12_ofWearer_17 : decode cX12_ofWearer 17 = .ok (.aload_n 0, 1) := by decide +kernel
theorem dX12_ofWearer_18 : decode cX12_ofWearer 18 = .ok (.ldc 53, 2) := by decide +kernel
theorem dX12_ofWearer_20 : decode cX12_ofWearer 20 = .ok (.invokevirtual 54, 3) := by decide +kernel
theorem dX12_ofWearer_23 : decode cX12_ofWearer 23 = .ok (.ireturn, 1) := by decide +kernel
theorem dX12_ofWearer_24 : decode cX12_ofWearer 24 = .ok (.iload_n 2, 1) := by decide +kernel
theorem dX12_ofWearer_25 : decode cX12_ofWearer 25 = .ok (.iconst 4, 1) := by decide +kernel
theorem dX12_ofWearer_26 : decode cX12_ofWearer 26 = .ok (.if_icmp .ge 12, 3) := by decide +kernel
theorem dX12_ofWearer_29 : decode cX12_ofWearer 29 = .ok (.aload_n 0, 1) := by decide +kernel
theorem dX12_ofWearer_30 : decode cX12_ofWearer 30 = .ok (.iload_n 1, 1) := by decide +kernel
theorem dX12_ofWearer_31 : decode cX12_ofWearer 31 = .ok (.iload_n 2, 1) := by decide +kernel
theorem dX12_ofWearer_32 : decode cX12_ofWearer 32 = .ok (.invokevirtual 63, 3) := by decide +kernel
theorem dX12_ofWearer_35 : decode cX12_ofWearer 35 = .ok (.goto 8, 3) := by decide +kernel
theorem dX12_ofWearer_38 : decode cX12_ofWearer 38 = .ok (.aload_n 0, 1) := by decide +kernel
theorem dX12_ofWearer_39 : decode cX12_ofWearer 39 = .ok (.iload_n 1, 1) := by decide +kernel
theorem dX12_ofWearer_40 : decode cX12_ofWearer 40 = .ok (.invokevirtual 87, 3) := by decide +kernel
theorem dX12_ofWearer_43 : decode cX12_ofWearer 43 = .ok (.ireturn, 1) := by decide +kernel
theorem dX12_set_0 : decode cX12_set 0 = .ok (.iload_n 2, 1) := by decide +kernel
theorem dX12_set_1 : decode cX12_set 1 = .ok (.ifCond .ne 13, 3) := by decide +kernel
theorem dX12_set_4 : decode cX12_set 4 = .ok (.iload_n 3, 1) := by decide +kernel
theorem dX12_set_5 : decode cX12_set 5 = .ok (.iconst 0, 1) := by decide +kernel
theorem dX12_set_6 : decode cX12_set 6 = .ok (.bipush 99, 2) := by decide +kernel
theorem dX12_set_8 : decode cX12_set 8 = .ok (.invokestatic 41, 3) := by decide +kernel
theorem dX12_set_11 : decode cX12_set 11 = .ok (.goto 24, 3) := by decide +kernel
theorem dX12_set_14 : decode cX12_set 14 = .ok (.iload_n 2, 1) := by decide +kernel
theorem dX12_set_15 : decode cX12_set 15 = .ok (.iconst 1, 1) := by decide +kernel
theorem dX12_set_16 : decode cX12_set 16 = .ok (.if_icmp .ne 18, 3) := by decide +kernel
theorem dX12_set_19 : decode cX12_set 19 = .ok (.iload_n 3, 1) := by decide +kernel
theorem dX12_set_20 : decode cX12_set 20 = .ok (.iconst 0, 1) := by decide +kernel
theorem dX12_set_21 : decode cX12_set 21 = .ok (.sipush 1023, 3) := by decide +kernel
theorem dX12_set_24 : decode cX12_set 24 = .ok (.invokestatic 41, 3) := by decide +kernel
theorem dX12_set_27 : decode cX12_set 27 = .ok (.ifCond .eq 7, 3) := by decide +kernel
theorem dX12_set_30 : decode cX12_set 30 = .ok (.iconst 1, 1) := by decide +kernel
theorem dX12_set_31 : decode cX12_set 31 = .ok (.goto 4, 3) := by decide +kernel
theorem dX12_set_34 : decode cX12_set 34 = .ok (.iconst 0, 1) := by decide +kernel
theorem dX12_set_35 : decode cX12_set 35 = .ok (.istore 4, 2) := by decide +kernel
theorem dX12_set_37 : decode cX12_set 37 = .ok (.aload_n 0, 1) := by decide +kernel
theorem dX12_set_38 : decode cX12_set 38 = .ok (.iload_n 1, 1) := by decide +kernel
theorem dX12_set_39 : decode cX12_set 39 = .ok (.invokevirtual 84, 3) := by decide +kernel
theorem dX12_set_42 : decode cX12_set 42 = .ok (.ifCond .eq 26, 3) := by decide +kernel
theorem dX12_set_45 : decode cX12_set 45 = .ok (.iload 4, 2) := by decide +kernel
theorem dX12_set_47 : decode cX12_set 47 = .ok (.ifCond .eq 21, 3) := by decide +kernel
theorem dX12_set_50 : decode cX12_set 50 = .ok (.aload_n 0, 1) := by decide +kernel
theorem dX12_set_51 : decode cX12_set 51 = .ok (.bipush 50, 2) := by decide +kernel
theorem dX12_set_53 : decode cX12_set 53 = .ok (.iconst 4, 1) := by decide +kernel
theorem dX12_set_54 : decode cX12_set 54 = .ok (.iload_n 1, 1) := by decide +kernel
theorem dX12_set_55 : decode cX12_set 55 = .ok (.imul, 1) := by decide +kernel
theorem dX12_set_56 : decode cX12_set 56 = .ok (.iadd, 1) := by decide +kernel
theorem dX12_set_57 : decode cX12_set 57 = .ok (.iconst 2, 1) := by decide +kernel
theorem dX12_set_58 : decode cX12_set 58 = .ok (.iadd, 1) := by decide +kernel
theorem dX12_set_59 : decode cX12_set 59 = .ok (.iload_n 2, 1) := by decide +kernel
theorem dX12_set_60 : decode cX12_set 60 = .ok (.iadd, 1) := by decide +kernel
theorem dX12_set_61 : decode cX12_set 61 = .ok (.iload_n 3, 1) := by decide +kernel
theorem dX12_set_62 : decode cX12_set 62 = .ok (.invokevirtual 49, 3) := by decide +kernel
theorem dX12_set_65 : decode cX12_set 65 = .ok (.goto 9, 3) := by decide +kernel
theorem dX12_set_68 : decode cX12_set 68 = .ok (.aload_n 0, 1) := by decide +kernel
theorem dX12_set_69 : decode cX12_set 69 = .ok (.ldc 53, 2) := by decide +kernel
theorem dX12_set_71 : decode cX12_set 71 = .ok (.invokevirtual 54, 3) := by decide +kernel
theorem dX12_set_74 : decode cX12_set 74 = .ok (.ireturn, 1) := by decide +kernel
theorem dX12_comes_0 : decode cX12_comes 0 = .ok (.iconst 0, 1) := by decide +kernel
theorem dX12_comes_1 : decode cX12_comes 1 = .ok (.istore 4, 2) := by decide +kernel
theorem dX12_comes_3 : decode cX12_comes 3 = .ok (.iload 4, 2) := by decide +kernel
theorem dX12_comes_5 : decode cX12_comes 5 = .ok (.aload_n 0, 1) := by decide +kernel
theorem dX12_comes_6 : decode cX12_comes 6 = .ok (.getfield 7, 3) := by decide +kernel
theorem dX12_comes_9 : decode cX12_comes 9 = .ok (.iconst 3, 1) := by decide +kernel
theorem dX12_comes_10 : decode cX12_comes 10 = .ok (.iaload, 1) := by decide +kernel
theorem dX12_comes_11 : decode cX12_comes 11 = .ok (.if_icmp .ge 71, 3) := by decide +kernel
theorem dX12_comes_14 : decode cX12_comes 14 = .ok (.iload_n 3, 1) := by decide +kernel
theorem dX12_comes_15 : decode cX12_comes 15 = .ok (.ifCond .lt 67, 3) := by decide +kernel
theorem dX12_comes_18 : decode cX12_comes 18 = .ok (.aload_n 0, 1) := by decide +kernel
theorem dX12_comes_19 : decode cX12_comes 19 = .ok (.iload 4, 2) := by decide +kernel
theorem dX12_comes_21 : decode cX12_comes 21 = .ok (.iconst 0, 1) := by decide +kernel
theorem dX12_comes_22 : decode cX12_comes 22 = .ok (.aload_n 0, 1) := by decide +kernel
theorem dX12_comes_23 : decode cX12_comes 23 = .ok (.iload 4, 2) := by decide +kernel
theorem dX12_comes_25 : decode cX12_comes 25 = .ok (.iconst 0, 1) := by decide +kernel
theorem dX12_comes_26 : decode cX12_comes 26 = .ok (.invokevirtual 63, 3) := by decide +kernel
theorem dX12_comes_29 : decode cX12_comes 29 = .ok (.iload_n 3, 1) := by decide +kernel
theorem dX12_comes_30 : decode cX12_comes 30 = .ok (.if_icmp .ne 7, 3) := by decide +kernel
theorem dX12_comes_33 : decode cX12_comes 33 = .ok (.iconst (-1), 1) := by decide +kernel
theorem dX12_comes_34 : decode cX12_comes 34 = .ok (.goto 10, 3) := by decide +kernel
theorem dX12_comes_37 : decode cX12_comes 37 = .ok (.aload_n 0, 1) := by decide +kernel
theorem dX12_comes_38 : decode cX12_comes 38 = .ok (.iload 4, 2) := by decide +kernel
theorem dX12_comes_40 : decode cX12_comes 40 = .ok (.iconst 0, 1) := by decide +kernel
theorem dX12_comes_41 : decode cX12_comes 41 = .ok (.invokevirtual 63, 3) := by decide +kernel
theorem dX12_comes_44 : decode cX12_comes 44 = .ok (.invokevirtual 81, 3) := by decide +kernel
theorem dX12_comes_47 : decode cX12_comes 47 = .ok (.aload_n 0, 1) := by decide +kernel
theorem dX12_comes_48 : decode cX12_comes 48 = .ok (.iload 4, 2) := by decide +kernel
theorem dX12_comes_50 : decode cX12_comes 50 = .ok (.iconst 1, 1) := by decide +kernel
theorem dX12_comes_51 : decode cX12_comes 51 = .ok (.aload_n 0, 1) := by decide +kernel
theorem dX12_comes_52 : decode cX12_comes 52 = .ok (.iload 4, 2) := by decide +kernel
theorem dX12_comes_54 : decode cX12_comes 54 = .ok (.iconst 1, 1) := by decide +kernel
theorem dX12_comes_55 : decode cX12_comes 55 = .ok (.invokevirtual 63, 3) := by decide +kernel
theorem dX12_comes_58 : decode cX12_comes 58 = .ok (.iload_n 3, 1) := by decide +kernel
theorem dX12_comes_59 : decode cX12_comes 59 = .ok (.if_icmp .ne 7, 3) := by decide +kernel
theorem dX12_comes_62 : decode cX12_comes 62 = .ok (.iconst (-1), 1) := by decide +kernel
theorem dX12_comes_63 : decode cX12_comes 63 = .ok (.goto 10, 3) := by decide +kernel
theorem dX12_comes_66 : decode cX12_comes 66 = .ok (.aload_n 0, 1) := by decide +kernel
theorem dX12_comes_67 : decode cX12_comes 67 = .ok (.iload 4, 2) := by decide +kernel
theorem dX12_comes_69 : decode cX12_comes 69 = .ok (.iconst 1, 1) := by decide +kernel
theorem dX12_comes_70 : decode cX12_comes 70 = .ok (.invokevirtual 63, 3) := by decide +kernel
theorem dX12_comes_73 : decode cX12_comes 73 = .ok (.invokevirtual 81, 3) := by decide +kernel
theorem dX12_comes_76 : decode cX12_comes 76 = .ok (.iinc 4 1, 3) := by decide +kernel
theorem dX12_comes_79 : decode cX12_comes 79 = .ok (.goto (-76), 3) := by decide +kernel
theorem dX12_comes_82 : decode cX12_comes 82 = .ok (.aload_n 0, 1) := by decide +kernel
theorem dX12_comes_83 : decode cX12_comes 83 = .ok (.iload_n 1, 1) := by decide +kernel
theorem dX12_comes_84 : decode cX12_comes 84 = .ok (.iload_n 2, 1) := by decide +kernel
theorem dX12_comes_85 : decode cX12_comes 85 = .ok (.iload_n 3, 1) := by decide +kernel
theorem dX12_comes_86 : decode cX12_comes 86 = .ok (.invokevirtual 81, 3) := by decide +kernel
theorem dX12_comes_89 : decode cX12_comes 89 = .ok (.return_, 1) := by decide +kernel
theorem dX12_wear_0 : decode cX12_wear 0 = .ok (.aload_n 0, 1) := by decide +kernel
theorem dX12_wear_1 : decode cX12_wear 1 = .ok (.iload_n 1, 1) := by decide +kernel
theorem dX12_wear_2 : decode cX12_wear 2 = .ok (.invokevirtual 84, 3) := by decide +kernel
theorem dX12_wear_5 : decode cX12_wear 5 = .ok (.ifCond .eq 25, 3) := by decide +kernel
theorem dX12_wear_8 : decode cX12_wear 8 = .ok (.iload_n 2, 1) := by decide +kernel
theorem dX12_wear_9 : decode cX12_wear 9 = .ok (.iconst 0, 1) := by decide +kernel
theorem dX12_wear_10 : decode cX12_wear 10 = .ok (.iconst 1, 1) := by decide +kernel
theorem dX12_wear_11 : decode cX12_wear 11 = .ok (.invokestatic 41, 3) := by decide +kernel
theorem dX12_wear_14 : decode cX12_wear 14 = .ok (.ifCond .eq 16, 3) := by decide +kernel
theorem dX12_wear_17 : decode cX12_wear 17 = .ok (.iload_n 3, 1) := by decide +kernel
theorem dX12_wear_18 : decode cX12_wear 18 = .ok (.iconst (-1), 1) := by decide +kernel
theorem dX12_wear_19 : decode cX12_wear 19 = .ok (.if_icmp .eq 18, 3) := by decide +kernel
theorem dX12_wear_22 : decode cX12_wear 22 = .ok (.aload_n 0, 1) := by decide +kernel
theorem dX12_wear_23 : decode cX12_wear 23 = .ok (.iload_n 3, 1) := by decide +kernel
theorem dX12_wear_24 : decode cX12_wear 24 = .ok (.invokevirtual 66, 3) := by decide +kernel
theorem dX12_wear_27 : decode cX12_wear 27 = .ok (.ifCond .ne 10, 3) := by decide +kernel
theorem dX12_wear_30 : decode cX12_wear 30 = .ok (.aload_n 0, 1) := by decide +kernel
theorem dX12_wear_31 : decode cX12_wear 31 = .ok (.ldc 53, 2) := by decide +kernel
theorem dX12_wear_33 : decode cX12_wear 33 = .ok (.invokevirtual 54, 3) := by decide +kernel
theorem dX12_wear_36 : decode cX12_wear 36 = .ok (.ireturn, 1) := by decide +kernel
theorem dX12_wear_37 : decode cX12_wear 37 = .ok (.aload_n 0, 1) := by decide +kernel
theorem dX12_wear_38 : decode cX12_wear 38 = .ok (.iload_n 1, 1) := by decide +kernel
theorem dX12_wear_39 : decode cX12_wear 39 = .ok (.iload_n 2, 1) := by decide +kernel
theorem dX12_wear_40 : decode cX12_wear 40 = .ok (.invokevirtual 63, 3) := by decide +kernel
theorem dX12_wear_43 : decode cX12_wear 43 = .ok (.istore 4, 2) := by decide +kernel
theorem dX12_wear_45 : decode cX12_wear 45 = .ok (.aload_n 0, 1) := by decide +kernel
theorem dX12_wear_46 : decode cX12_wear 46 = .ok (.iload_n 1, 1) := by decide +kernel
theorem dX12_wear_47 : decode cX12_wear 47 = .ok (.iload_n 2, 1) := by decide +kernel
theorem dX12_wear_48 : decode cX12_wear 48 = .ok (.iload_n 3, 1) := by decide +kernel
theorem dX12_wear_49 : decode cX12_wear 49 = .ok (.invokevirtual 90, 3) := by decide +kernel
theorem dX12_wear_52 : decode cX12_wear 52 = .ok (.iload 4, 2) := by decide +kernel
theorem dX12_wear_54 : decode cX12_wear 54 = .ok (.ireturn, 1) := by decide +kernel
theorem dX12_become_0 : decode cX12_become 0 = .ok (.aload_n 0, 1) := by decide +kernel
theorem dX12_become_1 : decode cX12_become 1 = .ok (.iload_n 1, 1) := by decide +kernel
theorem dX12_become_2 : decode cX12_become 2 = .ok (.invokevirtual 66, 3) := by decide +kernel
theorem dX12_become_5 : decode cX12_become 5 = .ok (.ifCond .eq 13, 3) := by decide +kernel
theorem dX12_become_8 : decode cX12_become 8 = .ok (.iload_n 2, 1) := by decide +kernel
theorem dX12_become_9 : decode cX12_become 9 = .ok (.iconst 0, 1) := by decide +kernel
theorem dX12_become_10 : decode cX12_become 10 = .ok (.bipush 69, 2) := by decide +kernel
theorem dX12_become_12 : decode cX12_become 12 = .ok (.invokestatic 41, 3) := by decide +kernel
theorem dX12_become_15 : decode cX12_become 15 = .ok (.ifCond .ne 10, 3) := by decide +kernel
theorem dX12_become_18 : decode cX12_become 18 = .ok (.aload_n 0, 1) := by decide +kernel
theorem dX12_become_19 : decode cX12_become 19 = .ok (.ldc 53, 2) := by decide +kernel
theorem dX12_become_21 : decode cX12_become 21 = .ok (.invokevirtual 54, 3) := by decide +kernel
theorem dX12_become_24 : decode cX12_become 24 = .ok (.ireturn, 1) := by decide +kernel
theorem dX12_become_25 : decode cX12_become 25 = .ok (.aload_n 0, 1) := by decide +kernel
theorem dX12_become_26 : decode cX12_become 26 = .ok (.iload_n 1, 1) := by decide +kernel
theorem dX12_become_27 : decode cX12_become 27 = .ok (.iconst 1, 1) := by decide +kernel
theorem dX12_become_28 : decode cX12_become 28 = .ok (.iload_n 2, 1) := by decide +kernel
theorem dX12_become_29 : decode cX12_become 29 = .ok (.bipush 10, 2) := by decide +kernel
theorem dX12_become_31 : decode cX12_become 31 = .ok (.irem, 1) := by decide +kernel
theorem dX12_become_32 : decode cX12_become 32 = .ok (.invokevirtual 59, 3) := by decide +kernel
theorem dX12_become_35 : decode cX12_become 35 = .ok (.aload_n 0, 1) := by decide +kernel
theorem dX12_become_36 : decode cX12_become 36 = .ok (.bipush 18, 2) := by decide +kernel
theorem dX12_become_38 : decode cX12_become 38 = .ok (.iconst 4, 1) := by decide +kernel
theorem dX12_become_39 : decode cX12_become 39 = .ok (.iload_n 1, 1) := by decide +kernel
theorem dX12_become_40 : decode cX12_become 40 = .ok (.imul, 1) := by decide +kernel
theorem dX12_become_41 : decode cX12_become 41 = .ok (.iadd, 1) := by decide +kernel
theorem dX12_become_42 : decode cX12_become 42 = .ok (.iload_n 2, 1) := by decide +kernel
theorem dX12_become_43 : decode cX12_become 43 = .ok (.bipush 10, 2) := by decide +kernel
theorem dX12_become_45 : decode cX12_become 45 = .ok (.idiv, 1) := by decide +kernel
theorem dX12_become_46 : decode cX12_become 46 = .ok (.invokevirtual 49, 3) := by decide +kernel
theorem dX12_become_49 : decode cX12_become 49 = .ok (.ireturn, 1) := by decide +kernel
theorem dX12_above_0 : decode cX12_above 0 = .ok (.iload_n 0, 1) := by decide +kernel
theorem dX12_above_1 : decode cX12_above 1 = .ok (.ifCond .ne 7, 3) := by decide +kernel
theorem dX12_above_4 : decode cX12_above 4 = .ok (.iconst (-1), 1) := by decide +kernel
theorem dX12_above_5 : decode cX12_above 5 = .ok (.goto 15, 3) := by decide +kernel
theorem dX12_above_8 : decode cX12_above 8 = .ok (.iload_n 0, 1) := by decide +kernel
theorem dX12_above_9 : decode cX12_above 9 = .ok (.iconst 3, 1) := by decide +kernel
theorem dX12_above_10 : decode cX12_above 10 = .ok (.if_icmp .le 9, 3) := by decide +kernel
theorem dX12_above_13 : decode cX12_above 13 = .ok (.iload_n 0, 1) := by decide +kernel
theorem dX12_above_14 : decode cX12_above 14 = .ok (.iconst 3, 1) := by decide +kernel
theorem dX12_above_15 : decode cX12_above 15 = .ok (.isub, 1) := by decide +kernel
theorem dX12_above_16 : decode cX12_above 16 = .ok (.goto 4, 3) := by decide +kernel
theorem dX12_above_19 : decode cX12_above 19 = .ok (.iconst 0, 1) := by decide +kernel
theorem dX12_above_20 : decode cX12_above 20 = .ok (.ireturn, 1) := by decide +kernel
theorem dX12_as_0 : decode cX12_as 0 = .ok (.aload_n 0, 1) := by decide +kernel
theorem dX12_as_1 : decode cX12_as 1 = .ok (.iload_n 1, 1) := by decide +kernel
theorem dX12_as_2 : decode cX12_as 2 = .ok (.invokevirtual 66, 3) := by decide +kernel
theorem dX12_as_5 : decode cX12_as 5 = .ok (.ifCond .eq 13, 3) := by decide +kernel
theorem dX12_as_8 : decode cX12_as 8 = .ok (.iload_n 2, 1) := by decide +kernel
theorem dX12_as_9 : decode cX12_as 9 = .ok (.iconst 0, 1) := by decide +kernel
theorem dX12_as_10 : decode cX12_as 10 = .ok (.bipush 6, 2) := by decide +kernel
theorem dX12_as_12 : decode cX12_as 12 = .ok (.invokestatic 41, 3) := by decide +kernel
theorem dX12_as_15 : decode cX12_as 15 = .ok (.ifCond .ne 10, 3) := by decide +kernel
theorem dX12_as_18 : decode cX12_as 18 = .ok (.aload_n 0, 1) := by decide +kernel
theorem dX12_as_19 : decode cX12_as 19 = .ok (.ldc 53, 2) := by decide +kernel
theorem dX12_as_21 : decode cX12_as 21 = .ok (.invokevirtual 54, 3) := by decide +kernel
theorem dX12_as_24 : decode cX12_as 24 = .ok (.ireturn, 1) := by decide +kernel
theorem dX12_as_25 : decode cX12_as 25 = .ok (.aload_n 0, 1) := by decide +kernel
theorem dX12_as_26 : decode cX12_as 26 = .ok (.iload_n 1, 1) := by decide +kernel
theorem dX12_as_27 : decode cX12_as 27 = .ok (.iconst 0, 1) := by decide +kernel
theorem dX12_as_28 : decode cX12_as 28 = .ok (.invokevirtual 69, 3) := by decide +kernel
theorem dX12_as_31 : decode cX12_as 31 = .ok (.istore_n 3, 1) := by decide +kernel
theorem dX12_as_32 : decode cX12_as 32 = .ok (.iload_n 3, 1) := by decide +kernel
theorem dX12_as_33 : decode cX12_as 33 = .ok (.ifCond .lt 16, 3) := by decide +kernel
theorem dX12_as_36 : decode cX12_as 36 = .ok (.iload_n 3, 1) := by decide +kernel
theorem dX12_as_37 : decode cX12_as 37 = .ok (.iload_n 2, 1) := by decide +kernel
theorem dX12_as_38 : decode cX12_as 38 = .ok (.if_icmp .eq 11, 3) := by decide +kernel
theorem dX12_as_41 : decode cX12_as 41 = .ok (.iload_n 3, 1) := by decide +kernel
theorem dX12_as_42 : decode cX12_as 42 = .ok (.invokestatic 93, 3) := by decide +kernel
theorem dX12_as_45 : decode cX12_as 45 = .ok (.istore_n 3, 1) := by decide +kernel
theorem dX12_as_46 : decode cX12_as 46 = .ok (.goto (-14), 3) := by decide +kernel
theorem dX12_as_49 : decode cX12_as 49 = .ok (.iload_n 3, 1) := by decide +kernel
theorem dX12_as_50 : decode cX12_as 50 = .ok (.ifCond .ge 12, 3) := by decide +kernel
theorem dX12_as_53 : decode cX12_as 53 = .ok (.aload_n 0, 1) := by decide +kernel
theorem dX12_as_54 : decode cX12_as 54 = .ok (.ldc 96, 2) := by decide +kernel
theorem dX12_as_56 : decode cX12_as 56 = .ok (.invokevirtual 54, 3) := by decide +kernel
theorem dX12_as_59 : decode cX12_as 59 = .ok (.goto 9, 3) := by decide +kernel
theorem dX12_as_62 : decode cX12_as 62 = .ok (.aload_n 0, 1) := by decide +kernel
theorem dX12_as_63 : decode cX12_as 63 = .ok (.iload_n 1, 1) := by decide +kernel
theorem dX12_as_64 : decode cX12_as 64 = .ok (.iconst 1, 1) := by decide +kernel
theorem dX12_as_65 : decode cX12_as 65 = .ok (.invokevirtual 69, 3) := by decide +kernel
theorem dX12_as_68 : decode cX12_as 68 = .ok (.ireturn, 1) := by decide +kernel
theorem dX12_byteAt_0 : decode cX12_byteAt 0 = .ok (.iload_n 1, 1) := by decide +kernel
theorem dX12_byteAt_1 : decode cX12_byteAt 1 = .ok (.aload_n 0, 1) := by decide +kernel
theorem dX12_byteAt_2 : decode cX12_byteAt 2 = .ok (.getfield 97, 3) := by decide +kernel
theorem dX12_byteAt_5 : decode cX12_byteAt 5 = .ok (.if_icmp .ge 24, 3) := by decide +kernel
theorem dX12_byteAt_8 : decode cX12_byteAt 8 = .ok (.aload_n 0, 1) := by decide +kernel
theorem dX12_byteAt_9 : decode cX12_byteAt 9 = .ok (.getfield 7, 3) := by decide +kernel
theorem dX12_byteAt_12 : decode cX12_byteAt 12 = .ok (.sipush 144, 3) := by decide +kernel
theorem dX12_byteAt_15 : decode cX12_byteAt 15 = .ok (.bipush 50, 2) := by decide +kernel
theorem dX12_byteAt_17 : decode cX12_byteAt 17 = .ok (.aload_n 0, 1) := by decide +kernel
theorem dX12_byteAt_18 : decode cX12_byteAt 18 = .ok (.getfield 101, 3) := by decide +kernel
theorem dX12_byteAt_21 : decode cX12_byteAt 21 = .ok (.imul, 1) := by decide +kernel
theorem dX12_byteAt_22 : decode cX12_byteAt 22 = .ok (.iadd, 1) := by decide +kernel
theorem dX12_byteAt_23 : decode cX12_byteAt 23 = .ok (.iload_n 1, 1) := by decide +kernel
theorem dX12_byteAt_24 : decode cX12_byteAt 24 = .ok (.iadd, 1) := by decide +kernel
theorem dX12_byteAt_25 : decode cX12_byteAt 25 = .ok (.iaload, 1) := by decide +kernel
theorem dX12_byteAt_26 : decode cX12_byteAt 26 = .ok (.goto 4, 3) := by decide +kernel
theorem dX12_byteAt_29 : decode cX12_byteAt 29 = .ok (.iconst (-1), 1) := by decide +kernel
theorem dX12_byteAt_30 : decode cX12_byteAt 30 = .ok (.ireturn, 1) := by decide +kernel
theorem dX12_isDigit_0 : decode cX12_isDigit 0 = .ok (.iload_n 0, 1) := by decide +kernel
theorem dX12_isDigit_1 : decode cX12_isDigit 1 = .ok (.bipush 48, 2) := by decide +kernel
theorem dX12_isDigit_3 : decode cX12_isDigit 3 = .ok (.bipush 57, 2) := by decide +kernel
theorem dX12_isDigit_5 : decode cX12_isDigit 5 = .ok (.invokestatic 41, 3) := by decide +kernel
theorem dX12_isDigit_8 : decode cX12_isDigit 8 = .ok (.ireturn, 1) := by decide +kernel
theorem dX12_fails_0 : decode cX12_fails 0 = .ok (.aload_n 0, 1) := by decide +kernel
theorem dX12_fails_1 : decode cX12_fails 1 = .ok (.iconst 0, 1) := by decide +kernel
theorem dX12_fails_2 : decode cX12_fails 2 = .ok (.putfield 104, 3) := by decide +kernel
theorem dX12_fails_5 : decode cX12_fails 5 = .ok (.iconst 0, 1) := by decide +kernel
theorem dX12_fails_6 : decode cX12_fails 6 = .ok (.ireturn, 1) := by decide +kernel
theorem dX12_number_0 : decode cX12_number 0 = .ok (.iconst 0, 1) := by decide +kernel
theorem dX12_number_1 : decode cX12_number 1 = .ok (.istore_n 1, 1) := by decide +kernel
theorem dX12_number_2 : decode cX12_number 2 = .ok (.iconst 0, 1) := by decide +kernel
theorem dX12_number_3 : decode cX12_number 3 = .ok (.istore_n 2, 1) := by decide +kernel
theorem dX12_number_4 : decode cX12_number 4 = .ok (.iload_n 2, 1) := by decide +kernel
theorem dX12_number_5 : decode cX12_number 5 = .ok (.iconst 4, 1) := by decide +kernel
theorem dX12_number_6 : decode cX12_number 6 = .ok (.if_icmp .ge 50, 3) := by decide +kernel
theorem dX12_number_9 : decode cX12_number 9 = .ok (.aload_n 0, 1) := by decide +kernel
theorem dX12_number_10 : decode cX12_number 10 = .ok (.aload_n 0, 1) := by decide +kernel
theorem dX12_number_11 : decode cX12_number 11 = .ok (.getfield 108, 3) := by decide +kernel
theorem dX12_number_14 : decode cX12_number 14 = .ok (.invokevirtual 111, 3) := by decide +kernel
theorem dX12_number_17 : decode cX12_number 17 = .ok (.invokestatic 114, 3) := by decide +kernel
theorem dX12_number_20 : decode cX12_number 20 = .ok (.ifCond .eq 36, 3) := by decide +kernel
theorem dX12_number_23 : decode cX12_number 23 = .ok (.bipush 10, 2) := by decide +kernel
theorem dX12_number_25 : decode cX12_number 25 = .ok (.iload_n 1, 1) := by decide +kernel
theorem dX12_number_26 : decode cX12_number 26 = .ok (.imul, 1) := by decide +kernel
theorem dX12_number_27 : decode cX12_number 27 = .ok (.aload_n 0, 1) := by decide +kernel
theorem dX12_number_28 : decode cX12_number 28 = .ok (.aload_n 0, 1) := by decide +kernel
theorem dX12_number_29 : decode cX12_number 29 = .ok (.getfield 108, 3) := by decide +kernel
theorem dX12_number_32 : decode cX12_number 32 = .ok (.invokevirtual 111, 3) := by decide +kernel
theorem dX12_number_35 : decode cX12_number 35 = .ok (.iadd, 1) := by decide +kernel
theorem dX12_number_36 : decode cX12_number 36 = .ok (.bipush 48, 2) := by decide +kernel
theorem dX12_number_38 : decode cX12_number 38 = .ok (.isub, 1) := by decide +kernel
theorem dX12_number_39 : decode cX12_number 39 = .ok (.istore_n 1, 1) := by decide +kernel
theorem dX12_number_40 : decode cX12_number 40 = .ok (.aload_n 0, 1) := by decide +kernel
theorem dX12_number_41 : decode cX12_number 41 = .ok (.dup, 1) := by decide +kernel
theorem dX12_number_42 : decode cX12_number 42 = .ok (.getfield 108, 3) := by decide +kernel
theorem dX12_number_45 : decode cX12_number 45 = .ok (.iconst 1, 1) := by decide +kernel
theorem dX12_number_46 : decode cX12_number 46 = .ok (.iadd, 1) := by decide +kernel
theorem dX12_number_47 : decode cX12_number 47 = .ok (.putfield 108, 3) := by decide +kernel
theorem dX12_number_50 : decode cX12_number 50 = .ok (.iinc 2 1, 3) := by decide +kernel
theorem dX12_number_53 : decode cX12_number 53 = .ok (.goto (-49), 3) := by decide +kernel
theorem dX12_number_56 : decode cX12_number 56 = .ok (.iload_n 1, 1) := by decide +kernel
theorem dX12_number_57 : decode cX12_number 57 = .ok (.ireturn, 1) := by decide +kernel
theorem dX12_named_0 : decode cX12_named 0 = .ok (.iload_n 1, 1) := by decide +kernel
theorem dX12_named_1 : decode cX12_named 1 = .ok (.aload_n 0, 1) := by decide +kernel
theorem dX12_named_2 : decode cX12_named 2 = .ok (.getfield 101, 3) := by decide +kernel
theorem dX12_named_5 : decode cX12_named 5 = .ok (.ifCond .ne 8, 3) := by decide +kernel
theorem dX12_named_8 : decode cX12_named 8 = .ok (.bipush 98, 2) := by decide +kernel
theorem dX12_named_10 : decode cX12_named 10 = .ok (.goto 5, 3) := by decide +kernel
theorem dX12_named_13 : decode cX12_named 13 = .ok (.bipush 108, 2) := by decide +kernel
theorem dX12_named_15 : decode cX12_named 15 = .ok (.if_icmp .ne 7, 3) := by decide +kernel
theorem dX12_named_18 : decode cX12_named 18 = .ok (.iconst 1, 1) := by decide +kernel
theorem dX12_named_19 : decode cX12_named 19 = .ok (.goto 4, 3) := by decide +kernel
theorem dX12_named_22 : decode cX12_named 22 = .ok (.iconst 0, 1) := by decide +kernel
theorem dX12_named_23 : decode cX12_named 23 = .ok (.istore_n 2, 1) := by decide +kernel
theorem dX12_named_24 : decode cX12_named 24 = .ok (.iload_n 1, 1) := by decide +kernel
theorem dX12_named_25 : decode cX12_named 25 = .ok (.aload_n 0, 1) := by decide +kernel
theorem dX12_named_26 : decode cX12_named 26 = .ok (.getfield 101, 3) := by decide +kernel
theorem dX12_named_29 : decode cX12_named 29 = .ok (.ifCond .ne 8, 3) := by decide +kernel
theorem dX12_named_32 : decode cX12_named 32 = .ok (.bipush 104, 2) := by decide +kernel
theorem dX12_named_34 : decode cX12_named 34 = .ok (.goto 5, 3) := by decide +kernel
theorem dX12_named_37 : decode cX12_named 37 = .ok (.bipush 114, 2) := by decide +kernel
theorem dX12_named_39 : decode cX12_named 39 = .ok (.if_icmp .ne 7, 3) := by decide +kernel
theorem dX12_named_42 : decode cX12_named 42 = .ok (.iconst 1, 1) := by decide +kernel
theorem dX12_named_43 : decode cX12_named 43 = .ok (.goto 4, 3) := by decide +kernel
theorem dX12_named_46 : decode cX12_named 46 = .ok (.iconst 0, 1) := by decide +kernel
theorem dX12_named_47 : decode cX12_named 47 = .ok (.istore_n 3, 1) := by decide +kernel
theorem dX12_named_48 : decode cX12_named 48 = .ok (.iload_n 1, 1) := by decide +kernel
theorem dX12_named_49 : decode cX12_named 49 = .ok (.aload_n 0, 1) := by decide +kernel
theorem dX12_named_50 : decode cX12_named 50 = .ok (.getfield 101, 3) := by decide +kernel
theorem dX12_named_53 : decode cX12_named 53 = .ok (.ifCond .ne 8, 3) := by decide +kernel
theorem dX12_named_56 : decode cX12_named 56 = .ok (.bipush 109, 2) := by decide +kernel
theorem dX12_named_58 : decode cX12_named 58 = .ok (.goto 5, 3) := by decide +kernel
theorem dX12_named_61 : decode cX12_named 61 = .ok (.bipush 104, 2) := by decide +kernel
theorem dX12_named_63 : decode cX12_named 63 = .ok (.if_icmp .ne 7, 3) := by decide +kernel
theorem dX12_named_66 : decode cX12_named 66 = .ok (.iconst 1, 1) := by decide +kernel
theorem dX12_named_67 : decode cX12_named 67 = .ok (.goto 4, 3) := by decide +kernel
theorem dX12_named_70 : decode cX12_named 70 = .ok (.iconst 0, 1) := by decide +kernel
theorem dX12_named_71 : decode cX12_named 71 = .ok (.istore 4, 2) := by decide +kernel
theorem dX12_named_73 : decode cX12_named 73 = .ok (.iload_n 2, 1) := by decide +kernel
theorem dX12_named_74 : decode cX12_named 74 = .ok (.ifCond .ne 17, 3) := by decide +kernel
theorem dX12_named_77 : decode cX12_named 77 = .ok (.iload_n 3, 1) := by decide +kernel
theorem dX12_named_78 : decode cX12_named 78 = .ok (.ifCond .ne 13, 3) := by decide +kernel
theorem dX12_named_81 : decode cX12_named 81 = .ok (.iload 4, 2) := by decide +kernel
theorem dX12_named_83 : decode cX12_named 83 = .ok (.ifCond .ne 8, 3) := by decide +kernel
theorem dX12_named_86 : decode cX12_named 86 = .ok (.aload_n 0, 1) := by decide +kernel
theorem dX12_named_87 : decode cX12_named 87 = .ok (.invokevirtual 117, 3) := by decide +kernel
theorem dX12_named_90 : decode cX12_named 90 = .ok (.ireturn, 1) := by decide +kernel
theorem dX12_named_91 : decode cX12_named 91 = .ok (.aload_n 0, 1) := by decide +kernel
theorem dX12_named_92 : decode cX12_named 92 = .ok (.dup, 1) := by decide +kernel
theorem dX12_named_93 : decode cX12_named 93 = .ok (.getfield 108, 3) := by decide +kernel
theorem dX12_named_96 : decode cX12_named 96 = .ok (.iconst 1, 1) := by decide +kernel
theorem dX12_named_97 : decode cX12_named 97 = .ok (.iadd, 1) := by decide +kernel
theorem dX12_named_98 : decode cX12_named 98 = .ok (.putfield 108, 3) := by decide +kernel
theorem dX12_named_101 : decode cX12_named 101 = .ok (.iload_n 2, 1) := by decide +kernel
theorem dX12_named_102 : decode cX12_named 102 = .ok (.ifCond .eq 10, 3) := by decide +kernel
theorem dX12_named_105 : decode cX12_named 105 = .ok (.aload_n 0, 1) := by decide +kernel
theorem dX12_named_106 : decode cX12_named 106 = .ok (.getfield 121, 3) := by decide +kernel
theorem dX12_named_109 : decode cX12_named 109 = .ok (.goto 18, 3) := by decide +kernel
theorem dX12_named_112 : decode cX12_named 112 = .ok (.iload_n 3, 1) := by decide +kernel
theorem dX12_named_113 : decode cX12_named 113 = .ok (.ifCond .eq 10, 3) := by decide +kernel
theorem dX12_named_116 : decode cX12_named 116 = .ok (.aload_n 0, 1) := by decide +kernel
theorem dX12_named_117 : decode cX12_named 117 = .ok (.getfield 124, 3) := by decide +kernel
theorem dX12_named_120 : decode cX12_named 120 = .ok (.goto 7, 3) := by decide +kernel
theorem dX12_named_123 : decode cX12_named 123 = .ok (.aload_n 0, 1) := by decide +kernel
theorem dX12_named_124 : decode cX12_named 124 = .ok (.getfield 127, 3) := by decide +kernel
theorem dX12_named_127 : decode cX12_named 127 = .ok (.ireturn, 1) := by decide +kernel
theorem dX12_factor_0 : decode cX12_factor 0 = .ok (.aload_n 0, 1) := by decide +kernel
theorem dX12_factor_1 : decode cX12_factor 1 = .ok (.aload_n 0, 1) := by decide +kernel
theorem dX12_factor_2 : decode cX12_factor 2 = .ok (.getfield 108, 3) := by decide +kernel
theorem dX12_factor_5 : decode cX12_factor 5 = .ok (.invokevirtual 111, 3) := by decide +kernel
theorem dX12_factor_8 : decode cX12_factor 8 = .ok (.istore_n 1, 1) := by decide +kernel
theorem dX12_factor_9 : decode cX12_factor 9 = .ok (.iload_n 1, 1) := by decide +kernel
theorem dX12_factor_10 : decode cX12_factor 10 = .ok (.invokestatic 114, 3) := by decide +kernel
theorem dX12_factor_13 : decode cX12_factor 13 = .ok (.ifCond .eq 8, 3) := by decide +kernel
theorem dX12_factor_16 : decode cX12_factor 16 = .ok (.aload_n 0, 1) := by decide +kernel
theorem dX12_factor_17 : decode cX12_factor 17 = .ok (.invokevirtual 130, 3) := by decide +kernel
theorem dX12_factor_20 : decode cX12_factor 20 = .ok (.ireturn, 1) := by decide +kernel
theorem dX12_factor_21 : decode cX12_factor 21 = .ok (.iload_n 1, 1) := by decide +kernel
theorem dX12_factor_22 : decode cX12_factor 22 = .ok (.bipush 33, 2) := by decide +kernel
theorem dX12_factor_24 : decode cX12_factor 24 = .ok (.if_icmp .eq 15, 3) := by decide +kernel
theorem dX12_factor_27 : decode cX12_factor 27 = .ok (.iload_n 1, 1) := by decide +kernel
theorem dX12_factor_28 : decode cX12_factor 28 = .ok (.bipush 40, 2) := by decide +kernel
theorem dX12_factor_30 : decode cX12_factor 30 = .ok (.if_icmp .eq 9, 3) := by decide +kernel
theorem dX12_factor_33 : decode cX12_factor 33 = .ok (.aload_n 0, 1) := by decide +kernel
theorem dX12_factor_34 : decode cX12_factor 34 = .ok (.iload_n 1, 1) := by decide +kernel
theorem dX12_factor_35 : decode cX12_factor 35 = .ok (.invokevirtual 133, 3) := by decide +kernel
theorem dX12_factor_38 : decode cX12_factor 38 = .ok (.ireturn, 1) := by decide +kernel
theorem dX12_factor_39 : decode cX12_factor 39 = .ok (.aload_n 0, 1) := by decide +kernel
theorem dX12_factor_40 : decode cX12_factor 40 = .ok (.getfield 136, 3) := by decide +kernel
theorem dX12_factor_43 : decode cX12_factor 43 = .ok (.iconst 5, 1) := by decide +kernel
theorem dX12_factor_44 : decode cX12_factor 44 = .ok (.if_icmp .ne 8, 3) := by decide +kernel
theorem dX12_factor_47 : decode cX12_factor 47 = .ok (.aload_n 0, 1) := by decide +kernel
theorem dX12_factor_48 : decode cX12_factor 48 = .ok (.invokevirtual 117, 3) := by decide +kernel
theorem dX12_factor_51 : decode cX12_factor 51 = .ok (.ireturn, 1) := by decide +kernel
theorem dX12_factor_52 : decode cX12_factor 52 = .ok (.aload_n 0, 1) := by decide +kernel
theorem dX12_factor_53 : decode cX12_factor 53 = .ok (.dup, 1) := by decide +kernel
theorem dX12_factor_54 : decode cX12_factor 54 = .ok (.getfield 136, 3) := by decide +kernel
theorem dX12_factor_57 : decode cX12_factor 57 = .ok (.iconst 1, 1) := by decide +kernel
theorem dX12_factor_58 : decode cX12_factor 58 = .ok (.iadd, 1) := by decide +kernel
theorem dX12_factor_59 : decode cX12_factor 59 = .ok (.putfield 136, 3) := by decide +kernel
theorem dX12_factor_62 : decode cX12_factor 62 = .ok (.aload_n 0, 1) := by decide +kernel
theorem dX12_factor_63 : decode cX12_factor 63 = .ok (.dup, 1) := by decide +kernel
theorem dX12_factor_64 : decode cX12_factor 64 = .ok (.getfield 108, 3) := by decide +kernel
theorem dX12_factor_67 : decode cX12_factor 67 = .ok (.iconst 1, 1) := by decide +kernel
theorem dX12_factor_68 : decode cX12_factor 68 = .ok (.iadd, 1) := by decide +kernel
theorem dX12_factor_69 : decode cX12_factor 69 = .ok (.putfield 108, 3) := by decide +kernel
theorem dX12_factor_72 : decode cX12_factor 72 = .ok (.iload_n 1, 1) := by decide +kernel
theorem dX12_factor_73 : decode cX12_factor 73 = .ok (.bipush 33, 2) := by decide +kernel
theorem dX12_factor_75 : decode cX12_factor 75 = .ok (.if_icmp .ne 10, 3) := by decide +kernel
theorem dX12_factor_78 : decode cX12_factor 78 = .ok (.aload_n 0, 1) := by decide +kernel
theorem dX12_factor_79 : decode cX12_factor 79 = .ok (.invokevirtual 139, 3) := by decide +kernel
theorem dX12_factor_82 : decode cX12_factor 82 = .ok (.goto 7, 3) := by decide +kernel
theorem dX12_factor_85 : decode cX12_factor 85 = .ok (.aload_n 0, 1) := by decide +kernel
theorem dX12_factor_86 : decode cX12_factor 86 = .ok (.invokevirtual 142, 3) := by decide +kernel
theorem dX12_factor_89 : decode cX12_factor 89 = .ok (.istore_n 2, 1) := by decide +kernel
theorem dX12_factor_90 : decode cX12_factor 90 = .ok (.aload_n 0, 1) := by decide +kernel
theorem dX12_factor_91 : decode cX12_factor 91 = .ok (.dup, 1) := by decide +kernel
theorem dX12_factor_92 : decode cX12_factor 92 = .ok (.getfield 136, 3) := by decide +kernel
theorem dX12_factor_95 : decode cX12_factor 95 = .ok (.iconst 1, 1) := by decide +kernel
theorem dX12_factor_96 : decode cX12_factor 96 = .ok (.isub, 1) := by decide +kernel
theorem dX12_factor_97 : decode cX12_factor 97 = .ok (.putfield 136, 3) := by decide +kernel
theorem dX12_factor_100 : decode cX12_factor 100 = .ok (.iload_n 1, 1) := by decide +kernel
theorem dX12_factor_101 : decode cX12_factor 101 = .ok (.bipush 33, 2) := by decide +kernel
theorem dX12_factor_103 : decode cX12_factor 103 = .ok (.if_icmp .ne 13, 3) := by decide +kernel
theorem dX12_factor_106 : decode cX12_factor 106 = .ok (.iload_n 2, 1) := by decide +kernel
theorem dX12_factor_107 : decode cX12_factor 107 = .ok (.ifCond .ne 7, 3) := by decide +kernel
theorem dX12_factor_110 : decode cX12_factor 110 = .ok (.iconst 1, 1) := by decide +kernel
theorem dX12_factor_111 : decode cX12_factor 111 = .ok (.goto 4, 3) := by decide +kernel
theorem dX12_factor_114 : decode cX12_factor 114 = .ok (.iconst 0, 1) := by decide +kernel
theorem dX12_factor_115 : decode cX12_factor 115 = .ok (.ireturn, 1) := by decide +kernel
theorem dX12_factor_116 : decode cX12_factor 116 = .ok (.aload_n 0, 1) := by decide +kernel
theorem dX12_factor_117 : decode cX12_factor 117 = .ok (.getfield 104, 3) := by decide +kernel
theorem dX12_factor_120 : decode cX12_factor 120 = .ok (.ifCond .eq 28, 3) := by decide +kernel
theorem dX12_factor_123 : decode cX12_factor 123 = .ok (.aload_n 0, 1) := by decide +kernel
theorem dX12_factor_124 : decode cX12_factor 124 = .ok (.aload_n 0, 1) := by decide +kernel
theorem dX12_factor_125 : decode cX12_factor 125 = .ok (.getfield 108, 3) := by decide +kernel
theorem dX12_factor_128 : decode cX12_factor 128 = .ok (.invokevirtual 111, 3) := by decide +kernel
theorem dX12_factor_131 : decode cX12_factor 131 = .ok (.bipush 41, 2) := by decide +kernel
theorem dX12_factor_133 : decode cX12_factor 133 = .ok (.if_icmp .ne 15, 3) := by decide +kernel
theorem dX12_factor_136 : decode cX12_factor 136 = .ok (.aload_n 0, 1) := by decide +kernel
theorem dX12_factor_137 : decode cX12_factor 137 = .ok (.dup, 1) := by decide +kernel
theorem dX12_factor_138 : decode cX12_factor 138 = .ok (.getfield 108, 3) := by decide +kernel
theorem dX12_factor_141 : decode cX12_factor 141 = .ok (.iconst 1, 1) := by decide +kernel
theorem dX12_factor_142 : decode cX12_factor 142 = .ok (.iadd, 1) := by decide +kernel
theorem dX12_factor_143 : decode cX12_factor 143 = .ok (.putfield 108, 3) := by decide +kernel
theorem dX12_factor_146 : decode cX12_factor 146 = .ok (.iload_n 2, 1) := by decide +kernel
theorem dX12_factor_147 : decode cX12_factor 147 = .ok (.ireturn, 1) := by decide +kernel
theorem dX12_factor_148 : decode cX12_factor 148 = .ok (.aload_n 0, 1) := by decide +kernel
theorem dX12_factor_149 : decode cX12_factor 149 = .ok (.invokevirtual 117, 3) := by decide +kernel
theorem dX12_factor_152 : decode cX12_factor 152 = .ok (.ireturn, 1) := by decide +kernel
theorem dX12_product_0 : decode cX12_product 0 = .ok (.aload_n 0, 1) := by decide +kernel
theorem dX12_product_1 : decode cX12_product 1 = .ok (.invokevirtual 139, 3) := by decide +kernel
theorem dX12_product_4 : decode cX12_product 4 = .ok (.istore_n 1, 1) := by decide +kernel
theorem dX12_product_5 : decode cX12_product 5 = .ok (.aload_n 0, 1) := by decide +kernel
theorem dX12_product_6 : decode cX12_product 6 = .ok (.getfield 104, 3) := by decide +kernel
theorem dX12_product_9 : decode cX12_product 9 = .ok (.ifCond .eq 105, 3) := by decide +kernel
theorem dX12_product_12 : decode cX12_product 12 = .ok (.aload_n 0, 1) := by decide +kernel
theorem dX12_product_13 : decode cX12_product 13 = .ok (.aload_n 0, 1) := by decide +kernel
theorem dX12_product_14 : decode cX12_product 14 = .ok (.getfield 108, 3) := by decide +kernel
theorem dX12_product_17 : decode cX12_product 17 = .ok (.invokevirtual 111, 3) := by decide +kernel
theorem dX12_product_20 : decode cX12_product 20 = .ok (.bipush 42, 2) := by decide +kernel
theorem dX12_product_22 : decode cX12_product 22 = .ok (.if_icmp .eq 29, 3) := by decide +kernel
theorem dX12_product_25 : decode cX12_product 25 = .ok (.aload_n 0, 1) := by decide +kernel
theorem dX12_product_26 : decode cX12_product 26 = .ok (.aload_n 0, 1) := by decide +kernel
theorem dX12_product_27 : decode cX12_product 27 = .ok (.getfield 108, 3) := by decide +kernel
theorem dX12_product_30 : decode cX12_product 30 = .ok (.invokevirtual 111, 3) := by decide +kernel
theorem dX12_product_33 : decode cX12_product 33 = .ok (.bipush 47, 2) := by decide +kernel
theorem dX12_product_35 : decode cX12_product 35 = .ok (.if_icmp .eq 16, 3) := by decide +kernel
theorem dX12_product_38 : decode cX12_product 38 = .ok (.aload_n 0, 1) := by decide +kernel
theorem dX12_product_39 : decode cX12_product 39 = .ok (.aload_n 0, 1) := by decide +kernel
theorem dX12_product_40 : decode cX12_product 40 = .ok (.getfield 108, 3) := by decide +kernel
theorem dX12_product_43 : decode cX12_product 43 = .ok (.invokevirtual 111, 3) := by decide +kernel
theorem dX12_product_46 : decode cX12_product 46 = .ok (.bipush 37, 2) := by decide +kernel
theorem dX12_product_48 : decode cX12_product 48 = .ok (.if_icmp .ne 66, 3) := by decide +kernel
theorem dX12_product_51 : decode cX12_product 51 = .ok (.aload_n 0, 1) := by decide +kernel
theorem dX12_product_52 : decode cX12_product 52 = .ok (.aload_n 0, 1) := by decide +kernel
theorem dX12_product_53 : decode cX12_product 53 = .ok (.getfield 108, 3) := by decide +kernel
theorem dX12_product_56 : decode cX12_product 56 = .ok (.invokevirtual 111, 3) := by decide +kernel
theorem dX12_product_59 : decode cX12_product 59 = .ok (.istore_n 2, 1) := by decide +kernel
theorem dX12_product_60 : decode cX12_product 60 = .ok (.aload_n 0, 1) := by decide +kernel
theorem dX12_product_61 : decode cX12_product 61 = .ok (.dup, 1) := by decide +kernel
theorem dX12_product_62 : decode cX12_product 62 = .ok (.getfield 108, 3) := by decide +kernel
theorem dX12_product_65 : decode cX12_product 65 = .ok (.iconst 1, 1) := by decide +kernel
theorem dX12_product_66 : decode cX12_product 66 = .ok (.iadd, 1) := by decide +kernel
theorem dX12_product_67 : decode cX12_product 67 = .ok (.putfield 108, 3) := by decide +kernel
theorem dX12_product_70 : decode cX12_product 70 = .ok (.aload_n 0, 1) := by decide +kernel
theorem dX12_product_71 : decode cX12_product 71 = .ok (.invokevirtual 139, 3) := by decide +kernel
theorem dX12_product_74 : decode cX12_product 74 = .ok (.istore_n 3, 1) := by decide +kernel
theorem dX12_product_75 : decode cX12_product 75 = .ok (.iload_n 2, 1) := by decide +kernel
theorem dX12_product_76 : decode cX12_product 76 = .ok (.bipush 42, 2) := by decide +kernel
theorem dX12_product_78 : decode cX12_product 78 = .ok (.if_icmp .ne 9, 3) := by decide +kernel
theorem dX12_product_81 : decode cX12_product 81 = .ok (.iload_n 1, 1) := by decide +kernel
theorem dX12_product_82 : decode cX12_product 82 = .ok (.iload_n 3, 1) := by decide +kernel
theorem dX12_product_83 : decode cX12_product 83 = .ok (.imul, 1) := by decide +kernel
theorem dX12_product_84 : decode cX12_product 84 = .ok (.goto 26, 3) := by decide +kernel
theorem dX12_product_87 : decode cX12_product 87 = .ok (.iload_n 3, 1) := by decide +kernel
theorem dX12_product_88 : decode cX12_product 88 = .ok (.ifCond .ne 7, 3) := by decide +kernel
theorem dX12_product_91 : decode cX12_product 91 = .ok (.iconst 0, 1) := by decide +kernel
theorem dX12_product_92 : decode cX12_product 92 = .ok (.goto 18, 3) := by decide +kernel
theorem dX12_product_95 : decode cX12_product 95 = .ok (.iload_n 2, 1) := by decide +kernel
theorem dX12_product_96 : decode cX12_product 96 = .ok (.bipush 47, 2) := by decide +kernel
theorem dX12_product_98 : decode cX12_product 98 = .ok (.if_icmp .ne 9, 3) := by decide +kernel
theorem dX12_product_101 : decode cX12_product 101 = .ok (.iload_n 1, 1) := by decide +kernel
theorem dX12_product_102 : decode cX12_product 102 = .ok (.iload_n 3, 1) := by decide +kernel
theorem dX12_product_103 : decode cX12_product 103 = .ok (.idiv, 1) := by decide +kernel
theorem dX12_product_104 : decode cX12_product 104 = .ok (.goto 6, 3) := by decide +kernel
theorem dX12_product_107 : decode cX12_product 107 = .ok (.iload_n 1, 1) := by decide +kernel
theorem dX12_product_108 : decode cX12_product 108 = .ok (.iload_n 3, 1) := by decide +kernel
theorem dX12_product_109 : decode cX12_product 109 = .ok (.irem, 1) := by decide +kernel
theorem dX12_product_110 : decode cX12_product 110 = .ok (.istore_n 1, 1) := by decide +kernel
theorem dX12_product_111 : decode cX12_product 111 = .ok (.goto (-106), 3) := by decide +kernel
theorem dX12_product_114 : decode cX12_product 114 = .ok (.iload_n 1, 1) := by decide +kernel
theorem dX12_product_115 : decode cX12_product 115 = .ok (.ireturn, 1) := by decide +kernel
theorem dX12_sum_0 : decode cX12_sum 0 = .ok (.aload_n 0, 1) := by decide +kernel
theorem dX12_sum_1 : decode cX12_sum 1 = .ok (.invokevirtual 145, 3) := by decide +kernel
theorem dX12_sum_4 : decode cX12_sum 4 = .ok (.istore_n 1, 1) := by decide +kernel
theorem dX12_sum_5 : decode cX12_sum 5 = .ok (.aload_n 0, 1) := by decide +kernel
theorem dX12_sum_6 : decode cX12_sum 6 = .ok (.getfield 104, 3) := by decide +kernel
theorem dX12_sum_9 : decode cX12_sum 9 = .ok (.ifCond .eq 72, 3) := by decide +kernel
theorem dX12_sum_12 : decode cX12_sum 12 = .ok (.aload_n 0, 1) := by decide +kernel
theorem dX12_sum_13 : decode cX12_sum 13 = .ok (.aload_n 0, 1) := by decide +kernel
theorem dX12_sum_14 : decode cX12_sum 14 = .ok (.getfield 108, 3) := by decide +kernel
theorem dX12_sum_17 : decode cX12_sum 17 = .ok (.invokevirtual 111, 3) := by decide +kernel
theorem dX12_sum_20 : decode cX12_sum 20 = .ok (.bipush 43, 2) := by decide +kernel
theorem dX12_sum_22 : decode cX12_sum 22 = .ok (.if_icmp .eq 16, 3) := by decide +kernel
theorem dX12_sum_25 : decode cX12_sum 25 = .ok (.aload_n 0, 1) := by decide +kernel
theorem dX12_sum_26 : decode cX12_sum 26 = .ok (.aload_n 0, 1) := by decide +kernel
theorem dX12_sum_27 : decode cX12_sum 27 = .ok (.getfield 108, 3) := by decide +kernel
theorem dX12_sum_30 : decode cX12_sum 30 = .ok (.invokevirtual 111, 3) := by decide +kernel
theorem dX12_sum_33 : decode cX12_sum 33 = .ok (.bipush 45, 2) := by decide +kernel
theorem dX12_sum_35 : decode cX12_sum 35 = .ok (.if_icmp .ne 46, 3) := by decide +kernel
theorem dX12_sum_38 : decode cX12_sum 38 = .ok (.aload_n 0, 1) := by decide +kernel
theorem dX12_sum_39 : decode cX12_sum 39 = .ok (.aload_n 0, 1) := by decide +kernel
theorem dX12_sum_40 : decode cX12_sum 40 = .ok (.getfield 108, 3) := by decide +kernel
theorem dX12_sum_43 : decode cX12_sum 43 = .ok (.invokevirtual 111, 3) := by decide +kernel
theorem dX12_sum_46 : decode cX12_sum 46 = .ok (.istore_n 2, 1) := by decide +kernel
theorem dX12_sum_47 : decode cX12_sum 47 = .ok (.aload_n 0, 1) := by decide +kernel
theorem dX12_sum_48 : decode cX12_sum 48 = .ok (.dup, 1) := by decide +kernel
theorem dX12_sum_49 : decode cX12_sum 49 = .ok (.getfield 108, 3) := by decide +kernel
theorem dX12_sum_52 : decode cX12_sum 52 = .ok (.iconst 1, 1) := by decide +kernel
theorem dX12_sum_53 : decode cX12_sum 53 = .ok (.iadd, 1) := by decide +kernel
theorem dX12_sum_54 : decode cX12_sum 54 = .ok (.putfield 108, 3) := by decide +kernel
theorem dX12_sum_57 : decode cX12_sum 57 = .ok (.aload_n 0, 1) := by decide +kernel
theorem dX12_sum_58 : decode cX12_sum 58 = .ok (.invokevirtual 145, 3) := by decide +kernel
theorem dX12_sum_61 : decode cX12_sum 61 = .ok (.istore_n 3, 1) := by decide +kernel
theorem dX12_sum_62 : decode cX12_sum 62 = .ok (.iload_n 2, 1) := by decide +kernel
theorem dX12_sum_63 : decode cX12_sum 63 = .ok (.bipush 43, 2) := by decide +kernel
theorem dX12_sum_65 : decode cX12_sum 65 = .ok (.if_icmp .ne 9, 3) := by decide +kernel
theorem dX12_sum_68 : decode cX12_sum 68 = .ok (.iload_n 1, 1) := by decide +kernel
theorem dX12_sum_69 : decode cX12_sum 69 = .ok (.iload_n 3, 1) := by decide +kernel
theorem dX12_sum_70 : decode cX12_sum 70 = .ok (.iadd, 1) := by decide +kernel
theorem dX12_sum_71 : decode cX12_sum 71 = .ok (.goto 6, 3) := by decide +kernel
theorem dX12_sum_74 : decode cX12_sum 74 = .ok (.iload_n 1, 1) := by decide +kernel
theorem dX12_sum_75 : decode cX12_sum 75 = .ok (.iload_n 3, 1) := by decide +kernel
theorem dX12_sum_76 : decode cX12_sum 76 = .ok (.isub, 1) := by decide +kernel
theorem dX12_sum_77 : decode cX12_sum 77 = .ok (.istore_n 1, 1) := by decide +kernel
theorem dX12_sum_78 : decode cX12_sum 78 = .ok (.goto (-73), 3) := by decide +kernel
theorem dX12_sum_81 : decode cX12_sum 81 = .ok (.iload_n 1, 1) := by decide +kernel
theorem dX12_sum_82 : decode cX12_sum 82 = .ok (.ireturn, 1) := by decide +kernel
theorem dX12_compared_0 : decode cX12_compared 0 = .ok (.aload_n 0, 1) := by decide +kernel
theorem dX12_compared_1 : decode cX12_compared 1 = .ok (.invokevirtual 148, 3) := by decide +kernel
theorem dX12_compared_4 : decode cX12_compared 4 = .ok (.istore_n 1, 1) := by decide +kernel
theorem dX12_compared_5 : decode cX12_compared 5 = .ok (.aload_n 0, 1) := by decide +kernel
theorem dX12_compared_6 : decode cX12_compared 6 = .ok (.getfield 104, 3) := by decide +kernel
theorem dX12_compared_9 : decode cX12_compared 9 = .ok (.ifCond .eq 14, 3) := by decide +kernel
theorem dX12_compared_12 : decode cX12_compared 12 = .ok (.aload_n 0, 1) := by decide +kernel
theorem dX12_compared_13 : decode cX12_compared 13 = .ok (.aload_n 0, 1) := by decide +kernel
theorem dX12_compared_14 : decode cX12_compared 14 = .ok (.getfield 108, 3) := by decide +kernel
theorem dX12_compared_17 : decode cX12_compared 17 = .ok (.invokevirtual 111, 3) := by decide +kernel
theorem dX12_compared_20 : decode cX12_compared 20 = .ok (.goto 4, 3) := by decide +kernel
theorem dX12_compared_23 : decode cX12_compared 23 = .ok (.iconst (-1), 1) := by decide +kernel
theorem dX12_compared_24 : decode cX12_compared 24 = .ok (.istore_n 2, 1) := by decide +kernel
theorem dX12_compared_25 : decode cX12_compared 25 = .ok (.iload_n 2, 1) := by decide +kernel
theorem dX12_compared_26 : decode cX12_compared 26 = .ok (.bipush 60, 2) := by decide +kernel
theorem dX12_compared_28 : decode cX12_compared 28 = .ok (.if_icmp .eq 17, 3) := by decide +kernel
theorem dX12_compared_31 : decode cX12_compared 31 = .ok (.iload_n 2, 1) := by decide +kernel
theorem dX12_compared_32 : decode cX12_compared 32 = .ok (.bipush 61, 2) := by decide +kernel
theorem dX12_compared_34 : decode cX12_compared 34 = .ok (.if_icmp .eq 11, 3) := by decide +kernel
theorem dX12_compared_37 : decode cX12_compared 37 = .ok (.iload_n 2, 1) := by decide +kernel
theorem dX12_compared_38 : decode cX12_compared 38 = .ok (.bipush 62, 2) := by decide +kernel
theorem dX12_compared_40 : decode cX12_compared 40 = .ok (.if_icmp .eq 5, 3) := by decide +kernel
theorem dX12_compared_43 : decode cX12_compared 43 = .ok (.iload_n 1, 1) := by decide +kernel
theorem dX12_compared_44 : decode cX12_compared 44 = .ok (.ireturn, 1) := by decide +kernel
theorem dX12_compared_45 : decode cX12_compared 45 = .ok (.aload_n 0, 1) := by decide +kernel
theorem dX12_compared_46 : decode cX12_compared 46 = .ok (.dup, 1) := by decide +kernel
theorem dX12_compared_47 : decode cX12_compared 47 = .ok (.getfield 108, 3) := by decide +kernel
theorem dX12_compared_50 : decode cX12_compared 50 = .ok (.iconst 1, 1) := by decide +kernel
theorem dX12_compared_51 : decode cX12_compared 51 = .ok (.iadd, 1) := by decide +kernel
theorem dX12_compared_52 : decode cX12_compared 52 = .ok (.putfield 108, 3) := by decide +kernel
theorem dX12_compared_55 : decode cX12_compared 55 = .ok (.aload_n 0, 1) := by decide +kernel
theorem dX12_compared_56 : decode cX12_compared 56 = .ok (.invokevirtual 148, 3) := by decide +kernel
theorem dX12_compared_59 : decode cX12_compared 59 = .ok (.istore_n 3, 1) := by decide +kernel
theorem dX12_compared_60 : decode cX12_compared 60 = .ok (.iload_n 2, 1) := by decide +kernel
theorem dX12_compared_61 : decode cX12_compared 61 = .ok (.bipush 60, 2) := by decide +kernel
theorem dX12_compared_63 : decode cX12_compared 63 = .ok (.if_icmp .ne 16, 3) := by decide +kernel
theorem dX12_compared_66 : decode cX12_compared 66 = .ok (.iload_n 1, 1) := by decide +kernel
theorem dX12_compared_67 : decode cX12_compared 67 = .ok (.iload_n 3, 1) := by decide +kernel
theorem dX12_compared_68 : decode cX12_compared 68 = .ok (.if_icmp .ge 7, 3) := by decide +kernel
theorem dX12_compared_71 : decode cX12_compared 71 = .ok (.iconst 1, 1) := by decide +kernel
theorem dX12_compared_72 : decode cX12_compared 72 = .ok (.goto 36, 3) := by decide +kernel
theorem dX12_compared_75 : decode cX12_compared 75 = .ok (.iconst 0, 1) := by decide +kernel
theorem dX12_compared_76 : decode cX12_compared 76 = .ok (.goto 32, 3) := by decide +kernel
theorem dX12_compared_79 : decode cX12_compared 79 = .ok (.iload_n 2, 1) := by decide +kernel
theorem dX12_compared_80 : decode cX12_compared 80 = .ok (.bipush 61, 2) := by decide +kernel
theorem dX12_compared_82 : decode cX12_compared 82 = .ok (.if_icmp .ne 16, 3) := by decide +kernel
theorem dX12_compared_85 : decode cX12_compared 85 = .ok (.iload_n 1, 1) := by decide +kernel
theorem dX12_compared_86 : decode cX12_compared 86 = .ok (.iload_n 3, 1) := by decide +kernel
theorem dX12_compared_87 : decode cX12_compared 87 = .ok (.if_icmp .ne 7, 3) := by decide +kernel
theorem dX12_compared_90 : decode cX12_compared 90 = .ok (.iconst 1, 1) := by decide +kernel
theorem dX12_compared_91 : decode cX12_compared 91 = .ok (.goto 17, 3) := by decide +kernel
theorem dX12_compared_94 : decode cX12_compared 94 = .ok (.iconst 0, 1) := by decide +kernel
theorem dX12_compared_95 : decode cX12_compared 95 = .ok (.goto 13, 3) := by decide +kernel
theorem dX12_compared_98 : decode cX12_compared 98 = .ok (.iload_n 1, 1) := by decide +kernel
theorem dX12_compared_99 : decode cX12_compared 99 = .ok (.iload_n 3, 1) := by decide +kernel
theorem dX12_compared_100 : decode cX12_compared 100 = .ok (.if_icmp .le 7, 3) := by decide +kernel
theorem dX12_compared_103 : decode cX12_compared 103 = .ok (.iconst 1, 1) := by decide +kernel
theorem dX12_compared_104 : decode cX12_compared 104 = .ok (.goto 4, 3) := by decide +kernel
theorem dX12_compared_107 : decode cX12_compared 107 = .ok (.iconst 0, 1) := by decide +kernel
theorem dX12_compared_108 : decode cX12_compared 108 = .ok (.istore 4, 2) := by decide +kernel
theorem dX12_compared_110 : decode cX12_compared 110 = .ok (.iload 4, 2) := by decide +kernel
theorem dX12_compared_112 : decode cX12_compared 112 = .ok (.ifCond .eq 7, 3) := by decide +kernel
theorem dX12_compared_115 : decode cX12_compared 115 = .ok (.iconst 1, 1) := by decide +kernel
theorem dX12_compared_116 : decode cX12_compared 116 = .ok (.goto 4, 3) := by decide +kernel
theorem dX12_compared_119 : decode cX12_compared 119 = .ok (.iconst 0, 1) := by decide +kernel
theorem dX12_compared_120 : decode cX12_compared 120 = .ok (.ireturn, 1) := by decide +kernel
theorem dX12_both_0 : decode cX12_both 0 = .ok (.aload_n 0, 1) := by decide +kernel
theorem dX12_both_1 : decode cX12_both 1 = .ok (.invokevirtual 151, 3) := by decide +kernel
theorem dX12_both_4 : decode cX12_both 4 = .ok (.istore_n 1, 1) := by decide +kernel
theorem dX12_both_5 : decode cX12_both 5 = .ok (.aload_n 0, 1) := by decide +kernel
theorem dX12_both_6 : decode cX12_both 6 = .ok (.getfield 104, 3) := by decide +kernel
theorem dX12_both_9 : decode cX12_both 9 = .ok (.ifCond .eq 48, 3) := by decide +kernel
theorem dX12_both_12 : decode cX12_both 12 = .ok (.aload_n 0, 1) := by decide +kernel
theorem dX12_both_13 : decode cX12_both 13 = .ok (.aload_n 0, 1) := by decide +kernel
theorem dX12_both_14 : decode cX12_both 14 = .ok (.getfield 108, 3) := by decide +kernel
theorem dX12_both_17 : decode cX12_both 17 = .ok (.invokevirtual 111, 3) := by decide +kernel
theorem dX12_both_20 : decode cX12_both 20 = .ok (.bipush 38, 2) := by decide +kernel
theorem dX12_both_22 : decode cX12_both 22 = .ok (.if_icmp .ne 35, 3) := by decide +kernel
theorem dX12_both_25 : decode cX12_both 25 = .ok (.aload_n 0, 1) := by decide +kernel
theorem dX12_both_26 : decode cX12_both 26 = .ok (.dup, 1) := by decide +kernel
theorem dX12_both_27 : decode cX12_both 27 = .ok (.getfield 108, 3) := by decide +kernel
theorem dX12_both_30 : decode cX12_both 30 = .ok (.iconst 1, 1) := by decide +kernel
theorem dX12_both_31 : decode cX12_both 31 = .ok (.iadd, 1) := by decide +kernel
theorem dX12_both_32 : decode cX12_both 32 = .ok (.putfield 108, 3) := by decide +kernel
theorem dX12_both_35 : decode cX12_both 35 = .ok (.aload_n 0, 1) := by decide +kernel
theorem dX12_both_36 : decode cX12_both 36 = .ok (.invokevirtual 151, 3) := by decide +kernel
theorem dX12_both_39 : decode cX12_both 39 = .ok (.istore_n 2, 1) := by decide +kernel
theorem dX12_both_40 : decode cX12_both 40 = .ok (.iload_n 1, 1) := by decide +kernel
theorem dX12_both_41 : decode cX12_both 41 = .ok (.ifCond .eq 11, 3) := by decide +kernel
theorem dX12_both_44 : decode cX12_both 44 = .ok (.iload_n 2, 1) := by decide +kernel
theorem dX12_both_45 : decode cX12_both 45 = .ok (.ifCond .eq 7, 3) := by decide +kernel
theorem dX12_both_48 : decode cX12_both 48 = .ok (.iconst 1, 1) := by decide +kernel
theorem dX12_both_49 : decode cX12_both 49 = .ok (.goto 4, 3) := by decide +kernel
theorem dX12_both_52 : decode cX12_both 52 = .ok (.iconst 0, 1) := by decide +kernel
theorem dX12_both_53 : decode cX12_both 53 = .ok (.istore_n 1, 1) := by decide +kernel
theorem dX12_both_54 : decode cX12_both 54 = .ok (.goto (-49), 3) := by decide +kernel
theorem dX12_both_57 : decode cX12_both 57 = .ok (.iload_n 1, 1) := by decide +kernel
theorem dX12_both_58 : decode cX12_both 58 = .ok (.ireturn, 1) := by decide +kernel
theorem dX12_whole_0 : decode cX12_whole 0 = .ok (.aload_n 0, 1) := by decide +kernel
theorem dX12_whole_1 : decode cX12_whole 1 = .ok (.invokevirtual 154, 3) := by decide +kernel
theorem dX12_whole_4 : decode cX12_whole 4 = .ok (.istore_n 1, 1) := by decide +kernel
theorem dX12_whole_5 : decode cX12_whole 5 = .ok (.aload_n 0, 1) := by decide +kernel
theorem dX12_whole_6 : decode cX12_whole 6 = .ok (.getfield 104, 3) := by decide +kernel
theorem dX12_whole_9 : decode cX12_whole 9 = .ok (.ifCond .eq 48, 3) := by decide +kernel
theorem dX12_whole_12 : decode cX12_whole 12 = .ok (.aload_n 0, 1) := by decide +kernel
theorem dX12_whole_13 : decode cX12_whole 13 = .ok (.aload_n 0, 1) := by decide +kernel
theorem dX12_whole_14 : decode cX12_whole 14 = .ok (.getfield 108, 3) := by decide +kernel
theorem dX12_whole_17 : decode cX12_whole 17 = .ok (.invokevirtual 111, 3) := by decide +kernel
theorem dX12_whole_20 : decode cX12_whole 20 = .ok (.bipush 124, 2) := by decide +kernel
theorem dX12_whole_22 : decode cX12_whole 22 = .ok (.if_icmp .ne 35, 3) := by decide +kernel
theorem dX12_whole_25 : decode cX12_whole 25 = .ok (.aload_n 0, 1) := by decide +kernel
theorem dX12_whole_26 : decode cX12_whole 26 = .ok (.dup, 1) := by decide +kernel
theorem dX12_whole_27 : decode cX12_whole 27 = .ok (.getfield 108, 3) := by decide +kernel
theorem dX12_whole_30 : decode cX12_whole 30 = .ok (.iconst 1, 1) := by decide +kernel
theorem dX12_whole_31 : decode cX12_whole 31 = .ok (.iadd, 1) := by decide +kernel
theorem dX12_whole_32 : decode cX12_whole 32 = .ok (.putfield 108, 3) := by decide +kernel
theorem dX12_whole_35 : decode cX12_whole 35 = .ok (.aload_n 0, 1) := by decide +kernel
theorem dX12_whole_36 : decode cX12_whole 36 = .ok (.invokevirtual 154, 3) := by decide +kernel
theorem dX12_whole_39 : decode cX12_whole 39 = .ok (.istore_n 2, 1) := by decide +kernel
theorem dX12_whole_40 : decode cX12_whole 40 = .ok (.iload_n 1, 1) := by decide +kernel
theorem dX12_whole_41 : decode cX12_whole 41 = .ok (.ifCond .ne 7, 3) := by decide +kernel
theorem dX12_whole_44 : decode cX12_whole 44 = .ok (.iload_n 2, 1) := by decide +kernel
theorem dX12_whole_45 : decode cX12_whole 45 = .ok (.ifCond .eq 7, 3) := by decide +kernel
theorem dX12_whole_48 : decode cX12_whole 48 = .ok (.iconst 1, 1) := by decide +kernel
theorem dX12_whole_49 : decode cX12_whole 49 = .ok (.goto 4, 3) := by decide +kernel
theorem dX12_whole_52 : decode cX12_whole 52 = .ok (.iconst 0, 1) := by decide +kernel
theorem dX12_whole_53 : decode cX12_whole 53 = .ok (.istore_n 1, 1) := by decide +kernel
theorem dX12_whole_54 : decode cX12_whole 54 = .ok (.goto (-49), 3) := by decide +kernel
theorem dX12_whole_57 : decode cX12_whole 57 = .ok (.iload_n 1, 1) := by decide +kernel
theorem dX12_whole_58 : decode cX12_whole 58 = .ok (.ireturn, 1) := by decide +kernel
theorem dX12_walks_0 : decode cX12_walks 0 = .ok (.aload_n 0, 1) := by decide +kernel
theorem dX12_walks_1 : decode cX12_walks 1 = .ok (.iload_n 1, 1) := by decide +kernel
theorem dX12_walks_2 : decode cX12_walks 2 = .ok (.putfield 101, 3) := by decide +kernel
theorem dX12_walks_5 : decode cX12_walks 5 = .ok (.aload_n 0, 1) := by decide +kernel
theorem dX12_walks_6 : decode cX12_walks 6 = .ok (.iconst 0, 1) := by decide +kernel
theorem dX12_walks_7 : decode cX12_walks 7 = .ok (.putfield 108, 3) := by decide +kernel
theorem dX12_walks_10 : decode cX12_walks 10 = .ok (.aload_n 0, 1) := by decide +kernel
theorem dX12_walks_11 : decode cX12_walks 11 = .ok (.aload_n 0, 1) := by decide +kernel
theorem dX12_walks_12 : decode cX12_walks 12 = .ok (.getfield 7, 3) := by decide +kernel
theorem dX12_walks_15 : decode cX12_walks 15 = .ok (.bipush 6, 2) := by decide +kernel
theorem dX12_walks_17 : decode cX12_walks 17 = .ok (.iload_n 1, 1) := by decide +kernel
theorem dX12_walks_18 : decode cX12_walks 18 = .ok (.iadd, 1) := by decide +kernel
theorem dX12_walks_19 : decode cX12_walks 19 = .ok (.iaload, 1) := by decide +kernel
theorem dX12_walks_20 : decode cX12_walks 20 = .ok (.putfield 97, 3) := by decide +kernel
theorem dX12_walks_23 : decode cX12_walks 23 = .ok (.aload_n 0, 1) := by decide +kernel
theorem dX12_walks_24 : decode cX12_walks 24 = .ok (.iconst 0, 1) := by decide +kernel
theorem dX12_walks_25 : decode cX12_walks 25 = .ok (.putfield 136, 3) := by decide +kernel
theorem dX12_walks_28 : decode cX12_walks 28 = .ok (.aload_n 0, 1) := by decide +kernel
theorem dX12_walks_29 : decode cX12_walks 29 = .ok (.iconst 1, 1) := by decide +kernel
theorem dX12_walks_30 : decode cX12_walks 30 = .ok (.putfield 104, 3) := by decide +kernel
theorem dX12_walks_33 : decode cX12_walks 33 = .ok (.aload_n 0, 1) := by decide +kernel
theorem dX12_walks_34 : decode cX12_walks 34 = .ok (.iload_n 2, 1) := by decide +kernel
theorem dX12_walks_35 : decode cX12_walks 35 = .ok (.putfield 121, 3) := by decide +kernel
theorem dX12_walks_38 : decode cX12_walks 38 = .ok (.aload_n 0, 1) := by decide +kernel
theorem dX12_walks_39 : decode cX12_walks 39 = .ok (.iload_n 3, 1) := by decide +kernel
theorem dX12_walks_40 : decode cX12_walks 40 = .ok (.putfield 124, 3) := by decide +kernel
theorem dX12_walks_43 : decode cX12_walks 43 = .ok (.aload_n 0, 1) := by decide +kernel
theorem dX12_walks_44 : decode cX12_walks 44 = .ok (.iload 4, 2) := by decide +kernel
theorem dX12_walks_46 : decode cX12_walks 46 = .ok (.putfield 127, 3) := by decide +kernel
theorem dX12_walks_49 : decode cX12_walks 49 = .ok (.aload_n 0, 1) := by decide +kernel
theorem dX12_walks_50 : decode cX12_walks 50 = .ok (.invokevirtual 142, 3) := by decide +kernel
theorem dX12_walks_53 : decode cX12_walks 53 = .ok (.istore 5, 2) := by decide +kernel
theorem dX12_walks_55 : decode cX12_walks 55 = .ok (.aload_n 0, 1) := by decide +kernel
theorem dX12_walks_56 : decode cX12_walks 56 = .ok (.aload_n 0, 1) := by decide +kernel
theorem dX12_walks_57 : decode cX12_walks 57 = .ok (.getfield 104, 3) := by decide +kernel
theorem dX12_walks_60 : decode cX12_walks 60 = .ok (.ifCond .eq 18, 3) := by decide +kernel
theorem dX12_walks_63 : decode cX12_walks 63 = .ok (.aload_n 0, 1) := by decide +kernel
theorem dX12_walks_64 : decode cX12_walks 64 = .ok (.getfield 108, 3) := by decide +kernel
theorem dX12_walks_67 : decode cX12_walks 67 = .ok (.aload_n 0, 1) := by decide +kernel
theorem dX12_walks_68 : decode cX12_walks 68 = .ok (.getfield 97, 3) := by decide +kernel
theorem dX12_walks_71 : decode cX12_walks 71 = .ok (.if_icmp .ne 7, 3) := by decide +kernel
theorem dX12_walks_74 : decode cX12_walks 74 = .ok (.iconst 1, 1) := by decide +kernel
theorem dX12_walks_75 : decode cX12_walks 75 = .ok (.goto 4, 3) := by decide +kernel
theorem dX12_walks_78 : decode cX12_walks 78 = .ok (.iconst 0, 1) := by decide +kernel
theorem dX12_walks_79 : decode cX12_walks 79 = .ok (.putfield 104, 3) := by decide +kernel
theorem dX12_walks_82 : decode cX12_walks 82 = .ok (.iload 5, 2) := by decide +kernel
theorem dX12_walks_84 : decode cX12_walks 84 = .ok (.ireturn, 1) := by decide +kernel
theorem dX12_lawOf_0 : decode cX12_lawOf 0 = .ok (.iload_n 1, 1) := by decide +kernel
theorem dX12_lawOf_1 : decode cX12_lawOf 1 = .ok (.ifCond .ne 8, 3) := by decide +kernel
theorem dX12_lawOf_4 : decode cX12_lawOf 4 = .ok (.bipush 99, 2) := by decide +kernel
theorem dX12_lawOf_6 : decode cX12_lawOf 6 = .ok (.goto 4, 3) := by decide +kernel
theorem dX12_lawOf_9 : decode cX12_lawOf 9 = .ok (.iconst 1, 1) := by decide +kernel
theorem dX12_lawOf_10 : decode cX12_lawOf 10 = .ok (.istore 5, 2) := by decide +kernel
theorem dX12_lawOf_12 : decode cX12_lawOf 12 = .ok (.aload_n 0, 1) := by decide +kernel
theorem dX12_lawOf_13 : decode cX12_lawOf 13 = .ok (.getfield 7, 3) := by decide +kernel
theorem dX12_lawOf_16 : decode cX12_lawOf 16 = .ok (.bipush 6, 2) := by decide +kernel
theorem dX12_lawOf_18 : decode cX12_lawOf 18 = .ok (.iload_n 1, 1) := by decide +kernel
theorem dX12_lawOf_19 : decode cX12_lawOf 19 = .ok (.iadd, 1) := by decide +kernel
theorem dX12_lawOf_20 : decode cX12_lawOf 20 = .ok (.iaload, 1) := by decide +kernel
theorem dX12_lawOf_21 : decode cX12_lawOf 21 = .ok (.ifCond .lt 19, 3) := by decide +kernel
theorem dX12_lawOf_24 : decode cX12_lawOf 24 = .ok (.aload_n 0, 1) := by decide +kernel
theorem dX12_lawOf_25 : decode cX12_lawOf 25 = .ok (.iload_n 1, 1) := by decide +kernel
theorem dX12_lawOf_26 : decode cX12_lawOf 26 = .ok (.iload_n 2, 1) := by decide +kernel
theorem dX12_lawOf_27 : decode cX12_lawOf 27 = .ok (.iload_n 3, 1) := by decide +kernel
theorem dX12_lawOf_28 : decode cX12_lawOf 28 = .ok (.iload 4, 2) := by decide +kernel
theorem dX12_lawOf_30 : decode cX12_lawOf 30 = .ok (.invokevirtual 157, 3) := by decide +kernel
theorem dX12_lawOf_33 : decode cX12_lawOf 33 = .ok (.iconst 0, 1) := by decide +kernel
theorem dX12_lawOf_34 : decode cX12_lawOf 34 = .ok (.iload 5, 2) := by decide +kernel
theorem dX12_lawOf_36 : decode cX12_lawOf 36 = .ok (.invokestatic 161, 3) := by decide +kernel
theorem dX12_lawOf_39 : decode cX12_lawOf 39 = .ok (.ireturn, 1) := by decide +kernel
theorem dX12_lawOf_40 : decode cX12_lawOf 40 = .ok (.iload_n 1, 1) := by decide +kernel
theorem dX12_lawOf_41 : decode cX12_lawOf 41 = .ok (.ifCond .ne 9, 3) := by decide +kernel
theorem dX12_lawOf_44 : decode cX12_lawOf 44 = .ok (.iload_n 2, 1) := by decide +kernel
theorem dX12_lawOf_45 : decode cX12_lawOf 45 = .ok (.iload_n 3, 1) := by decide +kernel
theorem dX12_lawOf_46 : decode cX12_lawOf 46 = .ok (.iadd, 1) := by decide +kernel
theorem dX12_lawOf_47 : decode cX12_lawOf 47 = .ok (.goto 7, 3) := by decide +kernel
theorem dX12_lawOf_50 : decode cX12_lawOf 50 = .ok (.iload 4, 2) := by decide +kernel
theorem dX12_lawOf_52 : decode cX12_lawOf 52 = .ok (.iconst 2, 1) := by decide +kernel
theorem dX12_lawOf_53 : decode cX12_lawOf 53 = .ok (.irem, 1) := by decide +kernel
theorem dX12_lawOf_54 : decode cX12_lawOf 54 = .ok (.iconst 0, 1) := by decide +kernel
theorem dX12_lawOf_55 : decode cX12_lawOf 55 = .ok (.iload 5, 2) := by decide +kernel
theorem dX12_lawOf_57 : decode cX12_lawOf 57 = .ok (.invokestatic 161, 3) := by decide +kernel
theorem dX12_lawOf_60 : decode cX12_lawOf 60 = .ok (.ireturn, 1) := by decide +kernel
theorem dX12_law_0 : decode cX12_law 0 = .ok (.iload_n 1, 1) := by decide +kernel
theorem dX12_law_1 : decode cX12_law 1 = .ok (.iconst 0, 1) := by decide +kernel
theorem dX12_law_2 : decode cX12_law 2 = .ok (.iconst 1, 1) := by decide +kernel
theorem dX12_law_3 : decode cX12_law 3 = .ok (.invokestatic 41, 3) := by decide +kernel
theorem dX12_law_6 : decode cX12_law 6 = .ok (.ifCond .eq 15, 3) := by decide +kernel
theorem dX12_law_9 : decode cX12_law 9 = .ok (.aload_n 0, 1) := by decide +kernel
theorem dX12_law_10 : decode cX12_law 10 = .ok (.iload_n 1, 1) := by decide +kernel
theorem dX12_law_11 : decode cX12_law 11 = .ok (.iload_n 2, 1) := by decide +kernel
theorem dX12_law_12 : decode cX12_law 12 = .ok (.iload_n 3, 1) := by decide +kernel
theorem dX12_law_13 : decode cX12_law 13 = .ok (.iload 4, 2) := by decide +kernel
theorem dX12_law_15 : decode cX12_law 15 = .ok (.invokevirtual 165, 3) := by decide +kernel
theorem dX12_law_18 : decode cX12_law 18 = .ok (.goto 9, 3) := by decide +kernel
theorem dX12_law_21 : decode cX12_law 21 = .ok (.aload_n 0, 1) := by decide +kernel
theorem dX12_law_22 : decode cX12_law 22 = .ok (.ldc 53, 2) := by decide +kernel
theorem dX12_law_24 : decode cX12_law 24 = .ok (.invokevirtual 54, 3) := by decide +kernel
theorem dX12_law_27 : decode cX12_law 27 = .ok (.ireturn, 1) := by decide +kernel
theorem dX12_feed_0 : decode cX12_feed 0 = .ok (.iload_n 3, 1) := by decide +kernel
theorem dX12_feed_1 : decode cX12_feed 1 = .ok (.iconst 1, 1) := by decide +kernel
theorem dX12_feed_2 : decode cX12_feed 2 = .ok (.bipush 8, 2) := by decide +kernel
theorem dX12_feed_4 : decode cX12_feed 4 = .ok (.invokestatic 41, 3) := by decide +kernel
theorem dX12_feed_7 : decode cX12_feed 7 = .ok (.ifCond .ne 10, 3) := by decide +kernel
theorem dX12_feed_10 : decode cX12_feed 10 = .ok (.aload_n 0, 1) := by decide +kernel
theorem dX12_feed_11 : decode cX12_feed 11 = .ok (.ldc 53, 2) := by decide +kernel
theorem dX12_feed_13 : decode cX12_feed 13 = .ok (.invokevirtual 54, 3) := by decide +kernel
theorem dX12_feed_16 : decode cX12_feed 16 = .ok (.ireturn, 1) := by decide +kernel
theorem dX12_feed_17 : decode cX12_feed 17 = .ok (.aload_n 0, 1) := by decide +kernel
theorem dX12_feed_18 : decode cX12_feed 18 = .ok (.getfield 7, 3) := by decide +kernel
theorem dX12_feed_21 : decode cX12_feed 21 = .ok (.iconst 4, 1) := by decide +kernel
theorem dX12_feed_22 : decode cX12_feed 22 = .ok (.iaload, 1) := by decide +kernel
theorem dX12_feed_23 : decode cX12_feed 23 = .ok (.iload_n 3, 1) := by decide +kernel
theorem dX12_feed_24 : decode cX12_feed 24 = .ok (.iadd, 1) := by decide +kernel
theorem dX12_feed_25 : decode cX12_feed 25 = .ok (.bipush 50, 2) := by decide +kernel
theorem dX12_feed_27 : decode cX12_feed 27 = .ok (.if_icmp .le 10, 3) := by decide +kernel
theorem dX12_feed_30 : decode cX12_feed 30 = .ok (.aload_n 0, 1) := by decide +kernel
theorem dX12_feed_31 : decode cX12_feed 31 = .ok (.ldc 58, 2) := by decide +kernel
theorem dX12_feed_33 : decode cX12_feed 33 = .ok (.invokevirtual 54, 3) := by decide +kernel
theorem dX12_feed_36 : decode cX12_feed 36 = .ok (.ireturn, 1) := by decide +kernel
theorem dX12_feed_37 : decode cX12_feed 37 = .ok (.iconst 0, 1) := by decide +kernel
