theorem dX11_eye_42 : decode cX11_eye 42 = .ok (.getfield 60, 3) := by decide +kernel
theorem dX11_eye_45 : decode cX11_eye 45 = .ok (.iload_n 1, 1) := by decide +kernel
theorem dX11_eye_46 : decode cX11_eye 46 = .ok (.bipush 10, 2) := by decide +kernel
theorem dX11_eye_48 : decode cX11_eye 48 = .ok (.idiv, 1) := by decide +kernel
theorem dX11_eye_49 : decode cX11_eye 49 = .ok (.iload_n 1, 1) := by decide +kernel
theorem dX11_eye_50 : decode cX11_eye 50 = .ok (.bipush 10, 2) := by decide +kernel
theorem dX11_eye_52 : decode cX11_eye 52 = .ok (.irem, 1) := by decide +kernel
theorem dX11_eye_53 : decode cX11_eye 53 = .ok (.iload_n 2, 1) := by decide +kernel
theorem dX11_eye_54 : decode cX11_eye 54 = .ok (.invokevirtual 122, 3) := by decide +kernel
theorem dX11_eye_57 : decode cX11_eye 57 = .ok (.ireturn, 1) := by decide +kernel
theorem dX11_ofEye_0 : decode cX11_ofEye 0 = .ok (.aload_n 0, 1) := by decide +kernel
theorem dX11_ofEye_1 : decode cX11_ofEye 1 = .ok (.iload_n 1, 1) := by decide +kernel
theorem dX11_ofEye_2 : decode cX11_ofEye 2 = .ok (.invokevirtual 126, 3) := by decide +kernel
theorem dX11_ofEye_5 : decode cX11_ofEye 5 = .ok (.ifCond .eq 9, 3) := by decide +kernel
theorem dX11_ofEye_8 : decode cX11_ofEye 8 = .ok (.aload_n 0, 1) := by decide +kernel
theorem dX11_ofEye_9 : decode cX11_ofEye 9 = .ok (.iconst 1, 1) := by decide +kernel
theorem dX11_ofEye_10 : decode cX11_ofEye 10 = .ok (.invokevirtual 109, 3) := by decide +kernel
theorem dX11_ofEye_13 : decode cX11_ofEye 13 = .ok (.ireturn, 1) := by decide +kernel
theorem dX11_ofEye_14 : decode cX11_ofEye 14 = .ok (.iload_n 2, 1) := by decide +kernel
theorem dX11_ofEye_15 : decode cX11_ofEye 15 = .ok (.tableswitch 105 0 6 #[41, 51, 61, 71, 81, 87, 96], 41) := by decide +kernel
theorem dX11_ofEye_56 : decode cX11_ofEye 56 = .ok (.aload_n 0, 1) := by decide +kernel
theorem dX11_ofEye_57 : decode cX11_ofEye 57 = .ok (.getfield 60, 3) := by decide +kernel
theorem dX11_ofEye_60 : decode cX11_ofEye 60 = .ok (.getfield 129, 3) := by decide +kernel
theorem dX11_ofEye_63 : decode cX11_ofEye 63 = .ok (.iload_n 1, 1) := by decide +kernel
theorem dX11_ofEye_64 : decode cX11_ofEye 64 = .ok (.iaload, 1) := by decide +kernel
theorem dX11_ofEye_65 : decode cX11_ofEye 65 = .ok (.ireturn, 1) := by decide +kernel
theorem dX11_ofEye_66 : decode cX11_ofEye 66 = .ok (.aload_n 0, 1) := by decide +kernel
theorem dX11_ofEye_67 : decode cX11_ofEye 67 = .ok (.getfield 60, 3) := by decide +kernel
theorem dX11_ofEye_70 : decode cX11_ofEye 70 = .ok (.getfield 132, 3) := by decide +kernel
theorem dX11_ofEye_73 : decode cX11_ofEye 73 = .ok (.iload_n 1, 1) := by decide +kernel
theorem dX11_ofEye_74 : decode cX11_ofEye 74 = .ok (.iaload, 1) := by decide +kernel
theorem dX11_ofEye_75 : decode cX11_ofEye 75 = .ok (.ireturn, 1) := by decide +kernel
theorem dX11_ofEye_76 : decode cX11_ofEye 76 = .ok (.aload_n 0, 1) := by decide +kernel
theorem dX11_ofEye_77 : decode cX11_ofEye 77 = .ok (.getfield 60, 3) := by decide +kernel
theorem dX11_ofEye_80 : decode cX11_ofEye 80 = .ok (.getfield 135, 3) := by decide +kernel
theorem dX11_ofEye_83 : decode cX11_ofEye 83 = .ok (.iload_n 1, 1) := by decide +kernel
theorem dX11_ofEye_84 : decode cX11_ofEye 84 = .ok (.iaload, 1) := by decide +kernel
theorem dX11_ofEye_85 : decode cX11_ofEye 85 = .ok (.ireturn, 1) := by decide +kernel
theorem dX11_ofEye_86 : decode cX11_ofEye 86 = .ok (.aload_n 0, 1) := by decide +kernel
theorem dX11_ofEye_87 : decode cX11_ofEye 87 = .ok (.getfield 60, 3) := by decide +kernel
theorem dX11_ofEye_90 : decode cX11_ofEye 90 = .ok (.getfield 138, 3) := by decide +kernel
theorem dX11_ofEye_93 : decode cX11_ofEye 93 = .ok (.iload_n 1, 1) := by decide +kernel
theorem dX11_ofEye_94 : decode cX11_ofEye 94 = .ok (.iaload, 1) := by decide +kernel
theorem dX11_ofEye_95 : decode cX11_ofEye 95 = .ok (.ireturn, 1) := by decide +kernel
theorem dX11_ofEye_96 : decode cX11_ofEye 96 = .ok (.aload_n 0, 1) := by decide +kernel
theorem dX11_ofEye_97 : decode cX11_ofEye 97 = .ok (.iload_n 1, 1) := by decide +kernel
theorem dX11_ofEye_98 : decode cX11_ofEye 98 = .ok (.invokevirtual 141, 3) := by decide +kernel
theorem dX11_ofEye_101 : decode cX11_ofEye 101 = .ok (.ireturn, 1) := by decide +kernel
theorem dX11_ofEye_102 : decode cX11_ofEye 102 = .ok (.aload_n 0, 1) := by decide +kernel
theorem dX11_ofEye_103 : decode cX11_ofEye 103 = .ok (.getfield 60, 3) := by decide +kernel
theorem dX11_ofEye_106 : decode cX11_ofEye 106 = .ok (.iload_n 1, 1) := by decide +kernel
theorem dX11_ofEye_107 : decode cX11_ofEye 107 = .ok (.invokevirtual 144, 3) := by decide +kernel
theorem dX11_ofEye_110 : decode cX11_ofEye 110 = .ok (.ireturn, 1) := by decide +kernel
theorem dX11_ofEye_111 : decode cX11_ofEye 111 = .ok (.aload_n 0, 1) := by decide +kernel
theorem dX11_ofEye_112 : decode cX11_ofEye 112 = .ok (.getfield 60, 3) := by decide +kernel
theorem dX11_ofEye_115 : decode cX11_ofEye 115 = .ok (.iload_n 1, 1) := by decide +kernel
theorem dX11_ofEye_116 : decode cX11_ofEye 116 = .ok (.invokevirtual 147, 3) := by decide +kernel
theorem dX11_ofEye_119 : decode cX11_ofEye 119 = .ok (.ireturn, 1) := by decide +kernel
theorem dX11_ofEye_120 : decode cX11_ofEye 120 = .ok (.aload_n 0, 1) := by decide +kernel
theorem dX11_ofEye_121 : decode cX11_ofEye 121 = .ok (.iconst 1, 1) := by decide +kernel
theorem dX11_ofEye_122 : decode cX11_ofEye 122 = .ok (.invokevirtual 109, 3) := by decide +kernel
theorem dX11_ofEye_125 : decode cX11_ofEye 125 = .ok (.ireturn, 1) := by decide +kernel
theorem dX11_change_0 : decode cX11_change 0 = .ok (.aload_n 0, 1) := by decide +kernel
theorem dX11_change_1 : decode cX11_change 1 = .ok (.iload_n 1, 1) := by decide +kernel
theorem dX11_change_2 : decode cX11_change 2 = .ok (.invokevirtual 126, 3) := by decide +kernel
theorem dX11_change_5 : decode cX11_change 5 = .ok (.ifCond .ne 32, 3) := by decide +kernel
theorem dX11_change_8 : decode cX11_change 8 = .ok (.iload_n 2, 1) := by decide +kernel
theorem dX11_change_9 : decode cX11_change 9 = .ok (.iconst 0, 1) := by decide +kernel
theorem dX11_change_10 : decode cX11_change 10 = .ok (.iconst 1, 1) := by decide +kernel
theorem dX11_change_11 : decode cX11_change 11 = .ok (.invokestatic 105, 3) := by decide +kernel
theorem dX11_change_14 : decode cX11_change 14 = .ok (.ifCond .ne 23, 3) := by decide +kernel
theorem dX11_change_17 : decode cX11_change 17 = .ok (.iload_n 3, 1) := by decide +kernel
theorem dX11_change_18 : decode cX11_change 18 = .ok (.iconst 0, 1) := by decide +kernel
theorem dX11_change_19 : decode cX11_change 19 = .ok (.iload_n 2, 1) := by decide +kernel
theorem dX11_change_20 : decode cX11_change 20 = .ok (.ifCond .ne 8, 3) := by decide +kernel
theorem dX11_change_23 : decode cX11_change 23 = .ok (.bipush 9, 2) := by decide +kernel
theorem dX11_change_25 : decode cX11_change 25 = .ok (.goto 6, 3) := by decide +kernel
theorem dX11_change_28 : decode cX11_change 28 = .ok (.sipush 9999, 3) := by decide +kernel
theorem dX11_change_31 : decode cX11_change 31 = .ok (.invokestatic 105, 3) := by decide +kernel
theorem dX11_change_34 : decode cX11_change 34 = .ok (.ifCond .eq 9, 3) := by decide +kernel
theorem dX11_change_37 : decode cX11_change 37 = .ok (.aload_n 0, 1) := by decide +kernel
theorem dX11_change_38 : decode cX11_change 38 = .ok (.iconst 1, 1) := by decide +kernel
theorem dX11_change_39 : decode cX11_change 39 = .ok (.invokevirtual 109, 3) := by decide +kernel
theorem dX11_change_42 : decode cX11_change 42 = .ok (.ireturn, 1) := by decide +kernel
theorem dX11_change_43 : decode cX11_change 43 = .ok (.iload_n 2, 1) := by decide +kernel
theorem dX11_change_44 : decode cX11_change 44 = .ok (.ifCond .ne 13, 3) := by decide +kernel
theorem dX11_change_47 : decode cX11_change 47 = .ok (.aload_n 0, 1) := by decide +kernel
theorem dX11_change_48 : decode cX11_change 48 = .ok (.getfield 60, 3) := by decide +kernel
theorem dX11_change_51 : decode cX11_change 51 = .ok (.getfield 135, 3) := by decide +kernel
theorem dX11_change_54 : decode cX11_change 54 = .ok (.goto 10, 3) := by decide +kernel
theorem dX11_change_57 : decode cX11_change 57 = .ok (.aload_n 0, 1) := by decide +kernel
theorem dX11_change_58 : decode cX11_change 58 = .ok (.getfield 60, 3) := by decide +kernel
theorem dX11_change_61 : decode cX11_change 61 = .ok (.getfield 138, 3) := by decide +kernel
theorem dX11_change_64 : decode cX11_change 64 = .ok (.astore 4, 2) := by decide +kernel
theorem dX11_change_66 : decode cX11_change 66 = .ok (.aload 4, 2) := by decide +kernel
theorem dX11_change_68 : decode cX11_change 68 = .ok (.iload_n 1, 1) := by decide +kernel
theorem dX11_change_69 : decode cX11_change 69 = .ok (.iaload, 1) := by decide +kernel
theorem dX11_change_70 : decode cX11_change 70 = .ok (.istore 5, 2) := by decide +kernel
theorem dX11_change_72 : decode cX11_change 72 = .ok (.aload 4, 2) := by decide +kernel
theorem dX11_change_74 : decode cX11_change 74 = .ok (.iload_n 1, 1) := by decide +kernel
theorem dX11_change_75 : decode cX11_change 75 = .ok (.iload_n 3, 1) := by decide +kernel
theorem dX11_change_76 : decode cX11_change 76 = .ok (.iastore, 1) := by decide +kernel
theorem dX11_change_77 : decode cX11_change 77 = .ok (.iload 5, 2) := by decide +kernel
theorem dX11_change_79 : decode cX11_change 79 = .ok (.ireturn, 1) := by decide +kernel
theorem dX11_wearer_0 : decode cX11_wearer 0 = .ok (.aload_n 0, 1) := by decide +kernel
theorem dX11_wearer_1 : decode cX11_wearer 1 = .ok (.getfield 60, 3) := by decide +kernel
theorem dX11_wearer_4 : decode cX11_wearer 4 = .ok (.getfield 150, 3) := by decide +kernel
theorem dX11_wearer_7 : decode cX11_wearer 7 = .ok (.bipush 6, 2) := by decide +kernel
theorem dX11_wearer_9 : decode cX11_wearer 9 = .ok (.if_icmp .lt 9, 3) := by decide +kernel
theorem dX11_wearer_12 : decode cX11_wearer 12 = .ok (.aload_n 0, 1) := by decide +kernel
theorem dX11_wearer_13 : decode cX11_wearer 13 = .ok (.iconst 4, 1) := by decide +kernel
theorem dX11_wearer_14 : decode cX11_wearer 14 = .ok (.invokevirtual 109, 3) := by decide +kernel
theorem dX11_wearer_17 : decode cX11_wearer 17 = .ok (.ireturn, 1) := by decide +kernel
theorem dX11_wearer_18 : decode cX11_wearer 18 = .ok (.aload_n 0, 1) := by decide +kernel
theorem dX11_wearer_19 : decode cX11_wearer 19 = .ok (.getfield 60, 3) := by decide +kernel
theorem dX11_wearer_22 : decode cX11_wearer 22 = .ok (.invokevirtual 153, 3) := by decide +kernel
theorem dX11_wearer_25 : decode cX11_wearer 25 = .ok (.ireturn, 1) := by decide +kernel
theorem dX11_ofWearer_0 : decode cX11_ofWearer 0 = .ok (.aload_n 0, 1) := by decide +kernel
theorem dX11_ofWearer_1 : decode cX11_ofWearer 1 = .ok (.iload_n 1, 1) := by decide +kernel
theorem dX11_ofWearer_2 : decode cX11_ofWearer 2 = .ok (.invokevirtual 157, 3) := by decide +kernel
theorem dX11_ofWearer_5 : decode cX11_ofWearer 5 = .ok (.ifCond .ne 12, 3) := by decide +kernel
theorem dX11_ofWearer_8 : decode cX11_ofWearer 8 = .ok (.iload_n 2, 1) := by decide +kernel
theorem dX11_ofWearer_9 : decode cX11_ofWearer 9 = .ok (.iconst 0, 1) := by decide +kernel
theorem dX11_ofWearer_10 : decode cX11_ofWearer 10 = .ok (.iconst 4, 1) := by decide +kernel
theorem dX11_ofWearer_11 : decode cX11_ofWearer 11 = .ok (.invokestatic 105, 3) := by decide +kernel
theorem dX11_ofWearer_14 : decode cX11_ofWearer 14 = .ok (.ifCond .eq 9, 3) := by decide +kernel
theorem dX11_ofWearer_17 : decode cX11_ofWearer 17 = .ok (.aload_n 0, 1) := by decide +kernel
theorem dX11_ofWearer_18 : decode cX11_ofWearer 18 = .ok (.iconst 1, 1) := by decide +kernel
theorem dX11_ofWearer_19 : decode cX11_ofWearer 19 = .ok (.invokevirtual 109, 3) := by decide +kernel
theorem dX11_ofWearer_22 : decode cX11_ofWearer 22 = .ok (.ireturn, 1) := by decide +kernel
theorem dX11_ofWearer_23 : decode cX11_ofWearer 23 = .ok (.iload_n 2, 1) := by decide +kernel
theorem dX11_ofWearer_24 : decode cX11_ofWearer 24 = .ok (.iconst 4, 1) := by decide +kernel
theorem dX11_ofWearer_25 : decode cX11_ofWearer 25 = .ok (.if_icmp .ne 14, 3) := by decide +kernel
theorem dX11_ofWearer_28 : decode cX11_ofWearer 28 = .ok (.aload_n 0, 1) := by decide +kernel
theorem dX11_ofWearer_29 : decode cX11_ofWearer 29 = .ok (.getfield 60, 3) := by decide +kernel
theorem dX11_ofWearer_32 : decode cX11_ofWearer 32 = .ok (.iload_n 1, 1) := by decide +kernel
theorem dX11_ofWearer_33 : decode cX11_ofWearer 33 = .ok (.invokevirtual 160, 3) := by decide +kernel
theorem dX11_ofWearer_36 : decode cX11_ofWearer 36 = .ok (.goto 12, 3) := by decide +kernel
theorem dX11_ofWearer_39 : decode cX11_ofWearer 39 = .ok (.aload_n 0, 1) := by decide +kernel
theorem dX11_ofWearer_40 : decode cX11_ofWearer 40 = .ok (.getfield 60, 3) := by decide +kernel
theorem dX11_ofWearer_43 : decode cX11_ofWearer 43 = .ok (.iload_n 1, 1) := by decide +kernel
theorem dX11_ofWearer_44 : decode cX11_ofWearer 44 = .ok (.iload_n 2, 1) := by decide +kernel
theorem dX11_ofWearer_45 : decode cX11_ofWearer 45 = .ok (.invokevirtual 163, 3) := by decide +kernel
theorem dX11_ofWearer_48 : decode cX11_ofWearer 48 = .ok (.ireturn, 1) := by decide +kernel
theorem dX11_set_0 : decode cX11_set 0 = .ok (.aload_n 0, 1) := by decide +kernel
theorem dX11_set_1 : decode cX11_set 1 = .ok (.iload_n 1, 1) := by decide +kernel
theorem dX11_set_2 : decode cX11_set 2 = .ok (.invokevirtual 157, 3) := by decide +kernel
theorem dX11_set_5 : decode cX11_set 5 = .ok (.ifCond .ne 32, 3) := by decide +kernel
theorem dX11_set_8 : decode cX11_set 8 = .ok (.iload_n 2, 1) := by decide +kernel
theorem dX11_set_9 : decode cX11_set 9 = .ok (.iconst 0, 1) := by decide +kernel
theorem dX11_set_10 : decode cX11_set 10 = .ok (.iconst 1, 1) := by decide +kernel
theorem dX11_set_11 : decode cX11_set 11 = .ok (.invokestatic 105, 3) := by decide +kernel
theorem dX11_set_14 : decode cX11_set 14 = .ok (.ifCond .ne 23, 3) := by decide +kernel
theorem dX11_set_17 : decode cX11_set 17 = .ok (.iload_n 3, 1) := by decide +kernel
theorem dX11_set_18 : decode cX11_set 18 = .ok (.iconst 0, 1) := by decide +kernel
theorem dX11_set_19 : decode cX11_set 19 = .ok (.iload_n 2, 1) := by decide +kernel
theorem dX11_set_20 : decode cX11_set 20 = .ok (.ifCond .ne 8, 3) := by decide +kernel
theorem dX11_set_23 : decode cX11_set 23 = .ok (.bipush 99, 2) := by decide +kernel
theorem dX11_set_25 : decode cX11_set 25 = .ok (.goto 6, 3) := by decide +kernel
theorem dX11_set_28 : decode cX11_set 28 = .ok (.sipush 1023, 3) := by decide +kernel
theorem dX11_set_31 : decode cX11_set 31 = .ok (.invokestatic 105, 3) := by decide +kernel
theorem dX11_set_34 : decode cX11_set 34 = .ok (.ifCond .eq 9, 3) := by decide +kernel
theorem dX11_set_37 : decode cX11_set 37 = .ok (.aload_n 0, 1) := by decide +kernel
theorem dX11_set_38 : decode cX11_set 38 = .ok (.iconst 1, 1) := by decide +kernel
theorem dX11_set_39 : decode cX11_set 39 = .ok (.invokevirtual 109, 3) := by decide +kernel
theorem dX11_set_42 : decode cX11_set 42 = .ok (.ireturn, 1) := by decide +kernel
theorem dX11_set_43 : decode cX11_set 43 = .ok (.iload_n 2, 1) := by decide +kernel
theorem dX11_set_44 : decode cX11_set 44 = .ok (.ifCond .ne 13, 3) := by decide +kernel
theorem dX11_set_47 : decode cX11_set 47 = .ok (.aload_n 0, 1) := by decide +kernel
theorem dX11_set_48 : decode cX11_set 48 = .ok (.getfield 60, 3) := by decide +kernel
theorem dX11_set_51 : decode cX11_set 51 = .ok (.getfield 167, 3) := by decide +kernel
theorem dX11_set_54 : decode cX11_set 54 = .ok (.goto 10, 3) := by decide +kernel
theorem dX11_set_57 : decode cX11_set 57 = .ok (.aload_n 0, 1) := by decide +kernel
theorem dX11_set_58 : decode cX11_set 58 = .ok (.getfield 60, 3) := by decide +kernel
theorem dX11_set_61 : decode cX11_set 61 = .ok (.getfield 170, 3) := by decide +kernel
theorem dX11_set_64 : decode cX11_set 64 = .ok (.astore 4, 2) := by decide +kernel
theorem dX11_set_66 : decode cX11_set 66 = .ok (.aload 4, 2) := by decide +kernel
theorem dX11_set_68 : decode cX11_set 68 = .ok (.iload_n 1, 1) := by decide +kernel
theorem dX11_set_69 : decode cX11_set 69 = .ok (.iaload, 1) := by decide +kernel
theorem dX11_set_70 : decode cX11_set 70 = .ok (.istore 5, 2) := by decide +kernel
theorem dX11_set_72 : decode cX11_set 72 = .ok (.aload 4, 2) := by decide +kernel
theorem dX11_set_74 : decode cX11_set 74 = .ok (.iload_n 1, 1) := by decide +kernel
theorem dX11_set_75 : decode cX11_set 75 = .ok (.iload_n 3, 1) := by decide +kernel
theorem dX11_set_76 : decode cX11_set 76 = .ok (.iastore, 1) := by decide +kernel
theorem dX11_set_77 : decode cX11_set 77 = .ok (.iload 5, 2) := by decide +kernel
theorem dX11_set_79 : decode cX11_set 79 = .ok (.ireturn, 1) := by decide +kernel
theorem dX11_wear_0 : decode cX11_wear 0 = .ok (.aload_n 0, 1) := by decide +kernel
theorem dX11_wear_1 : decode cX11_wear 1 = .ok (.iload_n 1, 1) := by decide +kernel
theorem dX11_wear_2 : decode cX11_wear 2 = .ok (.invokevirtual 157, 3) := by decide +kernel
theorem dX11_wear_5 : decode cX11_wear 5 = .ok (.ifCond .ne 23, 3) := by decide +kernel
theorem dX11_wear_8 : decode cX11_wear 8 = .ok (.iload_n 2, 1) := by decide +kernel
theorem dX11_wear_9 : decode cX11_wear 9 = .ok (.invokestatic 173, 3) := by decide +kernel
theorem dX11_wear_12 : decode cX11_wear 12 = .ok (.ifCond .ne 16, 3) := by decide +kernel
theorem dX11_wear_15 : decode cX11_wear 15 = .ok (.iload_n 3, 1) := by decide +kernel
theorem dX11_wear_16 : decode cX11_wear 16 = .ok (.iconst (-1), 1) := by decide +kernel
theorem dX11_wear_17 : decode cX11_wear 17 = .ok (.if_icmp .eq 17, 3) := by decide +kernel
theorem dX11_wear_20 : decode cX11_wear 20 = .ok (.aload_n 0, 1) := by decide +kernel
theorem dX11_wear_21 : decode cX11_wear 21 = .ok (.iload_n 3, 1) := by decide +kernel
theorem dX11_wear_22 : decode cX11_wear 22 = .ok (.invokevirtual 126, 3) := by decide +kernel
theorem dX11_wear_25 : decode cX11_wear 25 = .ok (.ifCond .eq 9, 3) := by decide +kernel
theorem dX11_wear_28 : decode cX11_wear 28 = .ok (.aload_n 0, 1) := by decide +kernel
theorem dX11_wear_29 : decode cX11_wear 29 = .ok (.iconst 1, 1) := by decide +kernel
theorem dX11_wear_30 : decode cX11_wear 30 = .ok (.invokevirtual 109, 3) := by decide +kernel
theorem dX11_wear_33 : decode cX11_wear 33 = .ok (.ireturn, 1) := by decide +kernel
theorem dX11_wear_34 : decode cX11_wear 34 = .ok (.aload_n 0, 1) := by decide +kernel
theorem dX11_wear_35 : decode cX11_wear 35 = .ok (.getfield 60, 3) := by decide +kernel
theorem dX11_wear_38 : decode cX11_wear 38 = .ok (.iload_n 1, 1) := by decide +kernel
theorem dX11_wear_39 : decode cX11_wear 39 = .ok (.iload_n 2, 1) := by decide +kernel
theorem dX11_wear_40 : decode cX11_wear 40 = .ok (.iload_n 3, 1) := by decide +kernel
theorem dX11_wear_41 : decode cX11_wear 41 = .ok (.invokevirtual 176, 3) := by decide +kernel
theorem dX11_wear_44 : decode cX11_wear 44 = .ok (.ireturn, 1) := by decide +kernel
theorem dX11_become_0 : decode cX11_become 0 = .ok (.aload_n 0, 1) := by decide +kernel
theorem dX11_become_1 : decode cX11_become 1 = .ok (.iload_n 1, 1) := by decide +kernel
theorem dX11_become_2 : decode cX11_become 2 = .ok (.invokevirtual 126, 3) := by decide +kernel
theorem dX11_become_5 : decode cX11_become 5 = .ok (.ifCond .ne 10, 3) := by decide +kernel
theorem dX11_become_8 : decode cX11_become 8 = .ok (.iload_n 2, 1) := by decide +kernel
theorem dX11_become_9 : decode cX11_become 9 = .ok (.invokestatic 116, 3) := by decide +kernel
theorem dX11_become_12 : decode cX11_become 12 = .ok (.ifCond .eq 9, 3) := by decide +kernel
theorem dX11_become_15 : decode cX11_become 15 = .ok (.aload_n 0, 1) := by decide +kernel
theorem dX11_become_16 : decode cX11_become 16 = .ok (.iconst 1, 1) := by decide +kernel
theorem dX11_become_17 : decode cX11_become 17 = .ok (.invokevirtual 109, 3) := by decide +kernel
theorem dX11_become_20 : decode cX11_become 20 = .ok (.ireturn, 1) := by decide +kernel
theorem dX11_become_21 : decode cX11_become 21 = .ok (.aload_n 0, 1) := by decide +kernel
theorem dX11_become_22 : decode cX11_become 22 = .ok (.getfield 60, 3) := by decide +kernel
theorem dX11_become_25 : decode cX11_become 25 = .ok (.getfield 129, 3) := by decide +kernel
theorem dX11_become_28 : decode cX11_become 28 = .ok (.iload_n 1, 1) := by decide +kernel
theorem dX11_become_29 : decode cX11_become 29 = .ok (.iaload, 1) := by decide +kernel
theorem dX11_become_30 : decode cX11_become 30 = .ok (.istore_n 3, 1) := by decide +kernel
theorem dX11_become_31 : decode cX11_become 31 = .ok (.aload_n 0, 1) := by decide +kernel
theorem dX11_become_32 : decode cX11_become 32 = .ok (.getfield 60, 3) := by decide +kernel
theorem dX11_become_35 : decode cX11_become 35 = .ok (.getfield 129, 3) := by decide +kernel
theorem dX11_become_38 : decode cX11_become 38 = .ok (.iload_n 1, 1) := by decide +kernel
theorem dX11_become_39 : decode cX11_become 39 = .ok (.iload_n 2, 1) := by decide +kernel
theorem dX11_become_40 : decode cX11_become 40 = .ok (.bipush 10, 2) := by decide +kernel
theorem dX11_become_42 : decode cX11_become 42 = .ok (.idiv, 1) := by decide +kernel
theorem dX11_become_43 : decode cX11_become 43 = .ok (.iastore, 1) := by decide +kernel
theorem dX11_become_44 : decode cX11_become 44 = .ok (.aload_n 0, 1) := by decide +kernel
theorem dX11_become_45 : decode cX11_become 45 = .ok (.getfield 60, 3) := by decide +kernel
theorem dX11_become_48 : decode cX11_become 48 = .ok (.getfield 132, 3) := by decide +kernel
theorem dX11_become_51 : decode cX11_become 51 = .ok (.iload_n 1, 1) := by decide +kernel
theorem dX11_become_52 : decode cX11_become 52 = .ok (.iload_n 2, 1) := by decide +kernel
theorem dX11_become_53 : decode cX11_become 53 = .ok (.bipush 10, 2) := by decide +kernel
theorem dX11_become_55 : decode cX11_become 55 = .ok (.irem, 1) := by decide +kernel
theorem dX11_become_56 : decode cX11_become 56 = .ok (.iastore, 1) := by decide +kernel
theorem dX11_become_57 : decode cX11_become 57 = .ok (.iload_n 3, 1) := by decide +kernel
theorem dX11_become_58 : decode cX11_become 58 = .ok (.ireturn, 1) := by decide +kernel
theorem dX11_as_0 : decode cX11_as 0 = .ok (.aload_n 0, 1) := by decide +kernel
theorem dX11_as_1 : decode cX11_as 1 = .ok (.iload_n 1, 1) := by decide +kernel
theorem dX11_as_2 : decode cX11_as 2 = .ok (.invokevirtual 126, 3) := by decide +kernel
theorem dX11_as_5 : decode cX11_as 5 = .ok (.ifCond .ne 13, 3) := by decide +kernel
theorem dX11_as_8 : decode cX11_as 8 = .ok (.iload_n 2, 1) := by decide +kernel
theorem dX11_as_9 : decode cX11_as 9 = .ok (.iconst 0, 1) := by decide +kernel
theorem dX11_as_10 : decode cX11_as 10 = .ok (.bipush 6, 2) := by decide +kernel
theorem dX11_as_12 : decode cX11_as 12 = .ok (.invokestatic 105, 3) := by decide +kernel
theorem dX11_as_15 : decode cX11_as 15 = .ok (.ifCond .eq 9, 3) := by decide +kernel
theorem dX11_as_18 : decode cX11_as 18 = .ok (.aload_n 0, 1) := by decide +kernel
theorem dX11_as_19 : decode cX11_as 19 = .ok (.iconst 1, 1) := by decide +kernel
theorem dX11_as_20 : decode cX11_as 20 = .ok (.invokevirtual 109, 3) := by decide +kernel
theorem dX11_as_23 : decode cX11_as 23 = .ok (.ireturn, 1) := by decide +kernel
theorem dX11_as_24 : decode cX11_as 24 = .ok (.aload_n 0, 1) := by decide +kernel
theorem dX11_as_25 : decode cX11_as 25 = .ok (.getfield 41, 3) := by decide +kernel
theorem dX11_as_28 : decode cX11_as 28 = .ok (.aload_n 0, 1) := by decide +kernel
theorem dX11_as_29 : decode cX11_as 29 = .ok (.getfield 60, 3) := by decide +kernel
theorem dX11_as_32 : decode cX11_as 32 = .ok (.getfield 129, 3) := by decide +kernel
theorem dX11_as_35 : decode cX11_as 35 = .ok (.iload_n 1, 1) := by decide +kernel
theorem dX11_as_36 : decode cX11_as 36 = .ok (.iaload, 1) := by decide +kernel
theorem dX11_as_37 : decode cX11_as 37 = .ok (.aaload, 1) := by decide +kernel
theorem dX11_as_38 : decode cX11_as 38 = .ok (.iload_n 2, 1) := by decide +kernel
theorem dX11_as_39 : decode cX11_as 39 = .ok (.invokevirtual 179, 3) := by decide +kernel
theorem dX11_as_42 : decode cX11_as 42 = .ok (.ifCond .ne 9, 3) := by decide +kernel
theorem dX11_as_45 : decode cX11_as 45 = .ok (.aload_n 0, 1) := by decide +kernel
theorem dX11_as_46 : decode cX11_as 46 = .ok (.iconst 5, 1) := by decide +kernel
theorem dX11_as_47 : decode cX11_as 47 = .ok (.invokevirtual 109, 3) := by decide +kernel
theorem dX11_as_50 : decode cX11_as 50 = .ok (.ireturn, 1) := by decide +kernel
theorem dX11_as_51 : decode cX11_as 51 = .ok (.aload_n 0, 1) := by decide +kernel
theorem dX11_as_52 : decode cX11_as 52 = .ok (.getfield 60, 3) := by decide +kernel
theorem dX11_as_55 : decode cX11_as 55 = .ok (.getfield 132, 3) := by decide +kernel
theorem dX11_as_58 : decode cX11_as 58 = .ok (.iload_n 1, 1) := by decide +kernel
theorem dX11_as_59 : decode cX11_as 59 = .ok (.iaload, 1) := by decide +kernel
theorem dX11_as_60 : decode cX11_as 60 = .ok (.ireturn, 1) := by decide +kernel
theorem dX11_feed_0 : decode cX11_feed 0 = .ok (.iload_n 3, 1) := by decide +kernel
theorem dX11_feed_1 : decode cX11_feed 1 = .ok (.iconst 1, 1) := by decide +kernel
theorem dX11_feed_2 : decode cX11_feed 2 = .ok (.bipush 8, 2) := by decide +kernel
theorem dX11_feed_4 : decode cX11_feed 4 = .ok (.invokestatic 105, 3) := by decide +kernel
theorem dX11_feed_7 : decode cX11_feed 7 = .ok (.ifCond .eq 9, 3) := by decide +kernel
theorem dX11_feed_10 : decode cX11_feed 10 = .ok (.aload_n 0, 1) := by decide +kernel
theorem dX11_feed_11 : decode cX11_feed 11 = .ok (.iconst 1, 1) := by decide +kernel
theorem dX11_feed_12 : decode cX11_feed 12 = .ok (.invokevirtual 109, 3) := by decide +kernel
theorem dX11_feed_15 : decode cX11_feed 15 = .ok (.ireturn, 1) := by decide +kernel
theorem dX11_feed_16 : decode cX11_feed 16 = .ok (.aload_n 0, 1) := by decide +kernel
theorem dX11_feed_17 : decode cX11_feed 17 = .ok (.getfield 77, 3) := by decide +kernel
theorem dX11_feed_20 : decode cX11_feed 20 = .ok (.getfield 182, 3) := by decide +kernel
theorem dX11_feed_23 : decode cX11_feed 23 = .ok (.iload_n 3, 1) := by decide +kernel
theorem dX11_feed_24 : decode cX11_feed 24 = .ok (.iadd, 1) := by decide +kernel
theorem dX11_feed_25 : decode cX11_feed 25 = .ok (.bipush 50, 2) := by decide +kernel
theorem dX11_feed_27 : decode cX11_feed 27 = .ok (.if_icmp .le 9, 3) := by decide +kernel
theorem dX11_feed_30 : decode cX11_feed 30 = .ok (.aload_n 0, 1) := by decide +kernel
theorem dX11_feed_31 : decode cX11_feed 31 = .ok (.iconst 4, 1) := by decide +kernel
theorem dX11_feed_32 : decode cX11_feed 32 = .ok (.invokevirtual 109, 3) := by decide +kernel
theorem dX11_feed_35 : decode cX11_feed 35 = .ok (.ireturn, 1) := by decide +kernel
theorem dX11_feed_36 : decode cX11_feed 36 = .ok (.iconst 0, 1) := by decide +kernel
theorem dX11_feed_37 : decode cX11_feed 37 = .ok (.istore 4, 2) := by decide +kernel
theorem dX11_feed_39 : decode cX11_feed 39 = .ok (.iload 4, 2) := by decide +kernel
theorem dX11_feed_41 : decode cX11_feed 41 = .ok (.iload_n 3, 1) := by decide +kernel
theorem dX11_feed_42 : decode cX11_feed 42 = .ok (.if_icmp .ge 28, 3) := by decide +kernel
theorem dX11_feed_45 : decode cX11_feed 45 = .ok (.aload_n 0, 1) := by decide +kernel
theorem dX11_feed_46 : decode cX11_feed 46 = .ok (.getfield 77, 3) := by decide +kernel
theorem dX11_feed_49 : decode cX11_feed 49 = .ok (.lload_n 1, 1) := by decide +kernel
theorem dX11_feed_50 : decode cX11_feed 50 = .ok (.bipush 8, 2) := by decide +kernel
theorem dX11_feed_52 : decode cX11_feed 52 = .ok (.iload 4, 2) := by decide +kernel
theorem dX11_feed_54 : decode cX11_feed 54 = .ok (.imul, 1) := by decide +kernel
theorem dX11_feed_55 : decode cX11_feed 55 = .ok (.lushr, 1) := by decide +kernel
theorem dX11_feed_56 : decode cX11_feed 56 = .ok (.l2i, 1) := by decide +kernel
theorem dX11_feed_57 : decode cX11_feed 57 = .ok (.sipush 255, 3) := by decide +kernel
theorem dX11_feed_60 : decode cX11_feed 60 = .ok (.iand, 1) := by decide +kernel
theorem dX11_feed_61 : decode cX11_feed 61 = .ok (.invokevirtual 185, 3) := by decide +kernel
theorem dX11_feed_64 : decode cX11_feed 64 = .ok (.iinc 4 1, 3) := by decide +kernel
theorem dX11_feed_67 : decode cX11_feed 67 = .ok (.goto (-28), 3) := by decide +kernel
theorem dX11_feed_70 : decode cX11_feed 70 = .ok (.aload_n 0, 1) := by decide +kernel
theorem dX11_feed_71 : decode cX11_feed 71 = .ok (.getfield 77, 3) := by decide +kernel
theorem dX11_feed_74 : decode cX11_feed 74 = .ok (.getfield 182, 3) := by decide +kernel
theorem dX11_feed_77 : decode cX11_feed 77 = .ok (.ireturn, 1) := by decide +kernel
theorem dX11_text_0 : decode cX11_text 0 = .ok (.iload_n 1, 1) := by decide +kernel
theorem dX11_text_1 : decode cX11_text 1 = .ok (.invokestatic 188, 3) := by decide +kernel
theorem dX11_text_4 : decode cX11_text 4 = .ok (.ifCond .eq 9, 3) := by decide +kernel
theorem dX11_text_7 : decode cX11_text 7 = .ok (.aload_n 0, 1) := by decide +kernel
theorem dX11_text_8 : decode cX11_text 8 = .ok (.iconst 1, 1) := by decide +kernel
theorem dX11_text_9 : decode cX11_text 9 = .ok (.invokevirtual 109, 3) := by decide +kernel
theorem dX11_text_12 : decode cX11_text 12 = .ok (.ireturn, 1) := by decide +kernel
theorem dX11_text_13 : decode cX11_text 13 = .ok (.aload_n 0, 1) := by decide +kernel
theorem dX11_text_14 : decode cX11_text 14 = .ok (.getfield 73, 3) := by decide +kernel
theorem dX11_text_17 : decode cX11_text 17 = .ok (.aload_n 0, 1) := by decide +kernel
theorem dX11_text_18 : decode cX11_text 18 = .ok (.getfield 77, 3) := by decide +kernel
theorem dX11_text_21 : decode cX11_text 21 = .ok (.iload_n 1, 1) := by decide +kernel
theorem dX11_text_22 : decode cX11_text 22 = .ok (.invokevirtual 191, 3) := by decide +kernel
theorem dX11_text_25 : decode cX11_text 25 = .ok (.istore_n 2, 1) := by decide +kernel
theorem dX11_text_26 : decode cX11_text 26 = .ok (.aload_n 0, 1) := by decide +kernel
theorem dX11_text_27 : decode cX11_text 27 = .ok (.getfield 77, 3) := by decide +kernel
theorem dX11_text_30 : decode cX11_text 30 = .ok (.iconst 0, 1) := by decide +kernel
theorem dX11_text_31 : decode cX11_text 31 = .ok (.putfield 182, 3) := by decide +kernel
theorem dX11_text_34 : decode cX11_text 34 = .ok (.iload_n 2, 1) := by decide +kernel
theorem dX11_text_35 : decode cX11_text 35 = .ok (.ifCond .lt 8, 3) := by decide +kernel
theorem dX11_text_38 : decode cX11_text 38 = .ok (.bipush (-10), 2) := by decide +kernel
theorem dX11_text_40 : decode cX11_text 40 = .ok (.iload_n 2, 1) := by decide +kernel
theorem dX11_text_41 : decode cX11_text 41 = .ok (.isub, 1) := by decide +kernel
theorem dX11_text_42 : decode cX11_text 42 = .ok (.ireturn, 1) := by decide +kernel
theorem dX11_text_43 : decode cX11_text 43 = .ok (.aload_n 0, 1) := by decide +kernel
theorem dX11_text_44 : decode cX11_text 44 = .ok (.getfield 48, 3) := by decide +kernel
theorem dX11_text_47 : decode cX11_text 47 = .ok (.getfield 195, 3) := by decide +kernel
theorem dX11_text_50 : decode cX11_text 50 = .ok (.iload_n 1, 1) := by decide +kernel
theorem dX11_text_51 : decode cX11_text 51 = .ok (.aaload, 1) := by decide +kernel
theorem dX11_text_52 : decode cX11_text 52 = .ok (.aload_n 0, 1) := by decide +kernel
theorem dX11_text_53 : decode cX11_text 53 = .ok (.getfield 73, 3) := by decide +kernel
theorem dX11_text_56 : decode cX11_text 56 = .ok (.getfield 198, 3) := by decide +kernel
theorem dX11_text_59 : decode cX11_text 59 = .ok (.invokevirtual 201, 3) := by decide +kernel
theorem dX11_text_62 : decode cX11_text 62 = .ok (.iconst 1, 1) := by decide +kernel
theorem dX11_text_63 : decode cX11_text 63 = .ok (.ireturn, 1) := by decide +kernel
theorem dX11_law_0 : decode cX11_law 0 = .ok (.iload_n 1, 1) := by decide +kernel
theorem dX11_law_1 : decode cX11_law 1 = .ok (.invokestatic 188, 3) := by decide +kernel
theorem dX11_law_4 : decode cX11_law 4 = .ok (.ifCond .eq 9, 3) := by decide +kernel
theorem dX11_law_7 : decode cX11_law 7 = .ok (.aload_n 0, 1) := by decide +kernel
theorem dX11_law_8 : decode cX11_law 8 = .ok (.iconst 1, 1) := by decide +kernel
theorem dX11_law_9 : decode cX11_law 9 = .ok (.invokevirtual 109, 3) := by decide +kernel
theorem dX11_law_12 : decode cX11_law 12 = .ok (.ireturn, 1) := by decide +kernel
theorem dX11_law_13 : decode cX11_law 13 = .ok (.aload_n 0, 1) := by decide +kernel
theorem dX11_law_14 : decode cX11_law 14 = .ok (.getfield 48, 3) := by decide +kernel
theorem dX11_law_17 : decode cX11_law 17 = .ok (.iload_n 1, 1) := by decide +kernel
theorem dX11_law_18 : decode cX11_law 18 = .ok (.iload_n 2, 1) := by decide +kernel
theorem dX11_law_19 : decode cX11_law 19 = .ok (.iload_n 3, 1) := by decide +kernel
theorem dX11_law_20 : decode cX11_law 20 = .ok (.iload 4, 2) := by decide +kernel
theorem dX11_law_22 : decode cX11_law 22 = .ok (.invokevirtual 204, 3) := by decide +kernel
theorem dX11_law_25 : decode cX11_law 25 = .ok (.ireturn, 1) := by decide +kernel
theorem dX11_hours_0 : decode cX11_hours 0 = .ok (.iload_n 1, 1) := by decide +kernel
theorem dX11_hours_1 : decode cX11_hours 1 = .ok (.iconst 1, 1) := by decide +kernel
theorem dX11_hours_2 : decode cX11_hours 2 = .ok (.bipush 60, 2) := by decide +kernel
theorem dX11_hours_4 : decode cX11_hours 4 = .ok (.invokestatic 105, 3) := by decide +kernel
theorem dX11_hours_7 : decode cX11_hours 7 = .ok (.ifCond .eq 9, 3) := by decide +kernel
theorem dX11_hours_10 : decode cX11_hours 10 = .ok (.aload_n 0, 1) := by decide +kernel
theorem dX11_hours_11 : decode cX11_hours 11 = .ok (.iconst 1, 1) := by decide +kernel
theorem dX11_hours_12 : decode cX11_hours 12 = .ok (.invokevirtual 109, 3) := by decide +kernel
theorem dX11_hours_15 : decode cX11_hours 15 = .ok (.ireturn, 1) := by decide +kernel
theorem dX11_hours_16 : decode cX11_hours 16 = .ok (.aload_n 0, 1) := by decide +kernel
theorem dX11_hours_17 : decode cX11_hours 17 = .ok (.getfield 60, 3) := by decide +kernel
theorem dX11_hours_20 : decode cX11_hours 20 = .ok (.getfield 208, 3) := by decide +kernel
theorem dX11_hours_23 : decode cX11_hours 23 = .ok (.iload_n 1, 1) := by decide +kernel
theorem dX11_hours_24 : decode cX11_hours 24 = .ok (.iadd, 1) := by decide +kernel
theorem dX11_hours_25 : decode cX11_hours 25 = .ok (.sipush 9999, 3) := by decide +kernel
theorem dX11_hours_28 : decode cX11_hours 28 = .ok (.if_icmp .le 9, 3) := by decide +kernel
theorem dX11_hours_31 : decode cX11_hours 31 = .ok (.aload_n 0, 1) := by decide +kernel
theorem dX11_hours_32 : decode cX11_hours 32 = .ok (.iconst 3, 1) := by decide +kernel
theorem dX11_hours_33 : decode cX11_hours 33 = .ok (.invokevirtual 109, 3) := by decide +kernel
theorem dX11_hours_36 : decode cX11_hours 36 = .ok (.ireturn, 1) := by decide +kernel
theorem dX11_hours_37 : decode cX11_hours 37 = .ok (.aload_n 0, 1) := by decide +kernel
theorem dX11_hours_38 : decode cX11_hours 38 = .ok (.getfield 60, 3) := by decide +kernel
theorem dX11_hours_41 : decode cX11_hours 41 = .ok (.iconst 0, 1) := by decide +kernel
theorem dX11_hours_42 : decode cX11_hours 42 = .ok (.putfield 211, 3) := by decide +kernel
theorem dX11_hours_45 : decode cX11_hours 45 = .ok (.aload_n 0, 1) := by decide +kernel
theorem dX11_hours_46 : decode cX11_hours 46 = .ok (.getfield 60, 3) := by decide +kernel
theorem dX11_hours_49 : decode cX11_hours 49 = .ok (.iload_n 1, 1) := by decide +kernel
theorem dX11_hours_50 : decode cX11_hours 50 = .ok (.invokevirtual 214, 3) := by decide +kernel
theorem dX11_hours_53 : decode cX11_hours 53 = .ok (.aload_n 0, 1) := by decide +kernel
theorem dX11_hours_54 : decode cX11_hours 54 = .ok (.getfield 60, 3) := by decide +kernel
theorem dX11_hours_57 : decode cX11_hours 57 = .ok (.getfield 211, 3) := by decide +kernel
theorem dX11_hours_60 : decode cX11_hours 60 = .ok (.ireturn, 1) := by decide +kernel
theorem dX11_loose_0 : decode cX11_loose 0 = .ok (.iload_n 1, 1) := by decide +kernel
theorem dX11_loose_1 : decode cX11_loose 1 = .ok (.iconst 1, 1) := by decide +kernel
theorem dX11_loose_2 : decode cX11_loose 2 = .ok (.bipush 40, 2) := by decide +kernel
theorem dX11_loose_4 : decode cX11_loose 4 = .ok (.invokestatic 105, 3) := by decide +kernel
theorem dX11_loose_7 : decode cX11_loose 7 = .ok (.ifCond .eq 9, 3) := by decide +kernel
theorem dX11_loose_10 : decode cX11_loose 10 = .ok (.aload_n 0, 1) := by decide +kernel
theorem dX11_loose_11 : decode cX11_loose 11 = .ok (.iconst 1, 1) := by decide +kernel
theorem dX11_loose_12 : decode cX11_loose 12 = .ok (.invokevirtual 109, 3) := by decide +kernel
theorem dX11_loose_15 : decode cX11_loose 15 = .ok (.ireturn, 1) := by decide +kernel
theorem dX11_loose_16 : decode cX11_loose 16 = .ok (.aload_n 0, 1) := by decide +kernel
theorem dX11_loose_17 : decode cX11_loose 17 = .ok (.getfield 60, 3) := by decide +kernel
theorem dX11_loose_20 : decode cX11_loose 20 = .ok (.getfield 208, 3) := by decide +kernel
theorem dX11_loose_23 : decode cX11_loose 23 = .ok (.iload_n 1, 1) := by decide +kernel
theorem dX11_loose_24 : decode cX11_loose 24 = .ok (.iadd, 1) := by decide +kernel
theorem dX11_loose_25 : decode cX11_loose 25 = .ok (.sipush 9999, 3) := by decide +kernel
theorem dX11_loose_28 : decode cX11_loose 28 = .ok (.if_icmp .le 9, 3) := by decide +kernel
theorem dX11_loose_31 : decode cX11_loose 31 = .ok (.aload_n 0, 1) := by decide +kernel
theorem dX11_loose_32 : decode cX11_loose 32 = .ok (.iconst 3, 1) := by decide +kernel
theorem dX11_loose_33 : decode cX11_loose 33 = .ok (.invokevirtual 109, 3) := by decide +kernel
theorem dX11_loose_36 : decode cX11_loose 36 = .ok (.ireturn, 1) := by decide +kernel
theorem dX11_loose_37 : decode cX11_loose 37 = .ok (.aload_n 0, 1) := by decide +kernel
theorem dX11_loose_38 : decode cX11_loose 38 = .ok (.getfield 60, 3) := by decide +kernel
theorem dX11_loose_41 : decode cX11_loose 41 = .ok (.iconst 0, 1) := by decide +kernel
theorem dX11_loose_42 : decode cX11_loose 42 = .ok (.putfield 211, 3) := by decide +kernel
theorem dX11_loose_45 : decode cX11_loose 45 = .ok (.iconst 0, 1) := by decide +kernel
theorem dX11_loose_46 : decode cX11_loose 46 = .ok (.istore_n 2, 1) := by decide +kernel
theorem dX11_loose_47 : decode cX11_loose 47 = .ok (.iload_n 2, 1) := by decide +kernel
theorem dX11_loose_48 : decode cX11_loose 48 = .ok (.iload_n 1, 1) := by decide +kernel
theorem dX11_loose_49 : decode cX11_loose 49 = .ok (.if_icmp .ge 24, 3) := by decide +kernel
theorem dX11_loose_52 : decode cX11_loose 52 = .ok (.aload_n 0, 1) := by decide +kernel
theorem dX11_loose_53 : decode cX11_loose 53 = .ok (.getfield 60, 3) := by decide +kernel
theorem dX11_loose_56 : decode cX11_loose 56 = .ok (.invokevirtual 217, 3) := by decide +kernel
theorem dX11_loose_59 : decode cX11_loose 59 = .ok (.aload_n 0, 1) := by decide +kernel
theorem dX11_loose_60 : decode cX11_loose 60 = .ok (.getfield 60, 3) := by decide +kernel
theorem dX11_loose_63 : decode cX11_loose 63 = .ok (.iconst 1, 1) := by decide +kernel
theorem dX11_loose_64 : decode cX11_loose 64 = .ok (.invokevirtual 214, 3) := by decide +kernel
theorem dX11_loose_67 : decode cX11_loose 67 = .ok (.iinc 2 1, 3) := by decide +kernel
theorem dX11_loose_70 : decode cX11_loose 70 = .ok (.goto (-23), 3) := by decide +kernel
theorem dX11_loose_73 : decode cX11_loose 73 = .ok (.aload_n 0, 1) := by decide +kernel
theorem dX11_loose_74 : decode cX11_loose 74 = .ok (.getfield 60, 3) := by decide +kernel
theorem dX11_loose_77 : decode cX11_loose 77 = .ok (.getfield 211, 3) := by decide +kernel
theorem dX11_loose_80 : decode cX11_loose 80 = .ok (.ireturn, 1) := by decide +kernel
theorem dX11_then_0 : decode cX11_then 0 = .ok (.iload_n 1, 1) := by decide +kernel
theorem dX11_then_1 : decode cX11_then 1 = .ok (.iconst 0, 1) := by decide +kernel
theorem dX11_then_2 : decode cX11_then 2 = .ok (.bipush 60, 2) := by decide +kernel
theorem dX11_then_4 : decode cX11_then 4 = .ok (.invokestatic 105, 3) := by decide +kernel
theorem dX11_then_7 : decode cX11_then 7 = .ok (.ifCond .ne 20, 3) := by decide +kernel
theorem dX11_then_10 : decode cX11_then 10 = .ok (.aload_n 0, 1) := by decide +kernel
theorem dX11_then_11 : decode cX11_then 11 = .ok (.iload_n 2, 1) := by decide +kernel
theorem dX11_then_12 : decode cX11_then 12 = .ok (.invokevirtual 157, 3) := by decide +kernel
theorem dX11_then_15 : decode cX11_then 15 = .ok (.ifCond .ne 12, 3) := by decide +kernel
theorem dX11_then_18 : decode cX11_then 18 = .ok (.iload_n 3, 1) := by decide +kernel
theorem dX11_then_19 : decode cX11_then 19 = .ok (.iconst 0, 1) := by decide +kernel
theorem dX11_then_20 : decode cX11_then 20 = .ok (.iconst 3, 1) := by decide +kernel
theorem dX11_then_21 : decode cX11_then 21 = .ok (.invokestatic 105, 3) := by decide +kernel
theorem dX11_then_24 : decode cX11_then 24 = .ok (.ifCond .eq 9, 3) := by decide +kernel
theorem dX11_then_27 : decode cX11_then 27 = .ok (.aload_n 0, 1) := by decide +kernel
theorem dX11_then_28 : decode cX11_then 28 = .ok (.iconst 1, 1) := by decide +kernel
theorem dX11_then_29 : decode cX11_then 29 = .ok (.invokevirtual 109, 3) := by decide +kernel
theorem dX11_then_32 : decode cX11_then 32 = .ok (.ireturn, 1) := by decide +kernel
theorem dX11_then_33 : decode cX11_then 33 = .ok (.aload_n 0, 1) := by decide +kernel
theorem dX11_then_34 : decode cX11_then 34 = .ok (.iload_n 1, 1) := by decide +kernel
theorem dX11_then_35 : decode cX11_then 35 = .ok (.invokevirtual 220, 3) := by decide +kernel
theorem dX11_then_38 : decode cX11_then 38 = .ok (.aload_n 0, 1) := by decide +kernel
theorem dX11_then_39 : decode cX11_then 39 = .ok (.getfield 64, 3) := by decide +kernel
theorem dX11_then_42 : decode cX11_then 42 = .ok (.iload_n 2, 1) := by decide +kernel
theorem dX11_then_43 : decode cX11_then 43 = .ok (.iload_n 3, 1) := by decide +kernel
theorem dX11_then_44 : decode cX11_then 44 = .ok (.invokevirtual 163, 3) := by decide +kernel
theorem dX11_then_47 : decode cX11_then 47 = .ok (.ireturn, 1) := by decide +kernel
theorem dX11_out_0 : decode cX11_out 0 = .ok (.iload_n 1, 1) := by decide +kernel
theorem dX11_out_1 : decode cX11_out 1 = .ok (.iconst 0, 1) := by decide +kernel
theorem dX11_out_2 : decode cX11_out 2 = .ok (.iconst 1, 1) := by decide +kernel
theorem dX11_out_3 : decode cX11_out 3 = .ok (.invokestatic 105, 3) := by decide +kernel
theorem dX11_out_6 : decode cX11_out 6 = .ok (.ifCond .eq 9, 3) := by decide +kernel
theorem dX11_out_9 : decode cX11_out 9 = .ok (.aload_n 0, 1) := by decide +kernel
theorem dX11_out_10 : decode cX11_out 10 = .ok (.iconst 1, 1) := by decide +kernel
theorem dX11_out_11 : decode cX11_out 11 = .ok (.invokevirtual 109, 3) := by decide +kernel
theorem dX11_out_14 : decode cX11_out 14 = .ok (.ireturn, 1) := by decide +kernel
theorem dX11_out_15 : decode cX11_out 15 = .ok (.aload_n 0, 1) := by decide +kernel
theorem dX11_out_16 : decode cX11_out 16 = .ok (.getfield 64, 3) := by decide +kernel
theorem dX11_out_19 : decode cX11_out 19 = .ok (.aload_n 0, 1) := by decide +kernel
theorem dX11_out_20 : decode cX11_out 20 = .ok (.getfield 60, 3) := by decide +kernel
theorem dX11_out_23 : decode cX11_out 23 = .ok (.invokevirtual 223, 3) := by decide +kernel
theorem dX11_out_26 : decode cX11_out 26 = .ok (.iconst 1, 1) := by decide +kernel
theorem dX11_out_27 : decode cX11_out 27 = .ok (.istore_n 2, 1) := by decide +kernel
theorem dX11_out_28 : decode cX11_out 28 = .ok (.iload_n 2, 1) := by decide +kernel
theorem dX11_out_29 : decode cX11_out 29 = .ok (.bipush 60, 2) := by decide +kernel
theorem dX11_out_31 : decode cX11_out 31 = .ok (.if_icmp .gt 43, 3) := by decide +kernel
theorem dX11_out_34 : decode cX11_out 34 = .ok (.aload_n 0, 1) := by decide +kernel
theorem dX11_out_35 : decode cX11_out 35 = .ok (.getfield 64, 3) := by decide +kernel
theorem dX11_out_38 : decode cX11_out 38 = .ok (.iconst 1, 1) := by decide +kernel
theorem dX11_out_39 : decode cX11_out 39 = .ok (.invokevirtual 214, 3) := by decide +kernel
theorem dX11_out_42 : decode cX11_out 42 = .ok (.aload_n 0, 1) := by decide +kernel
theorem dX11_out_43 : decode cX11_out 43 = .ok (.getfield 64, 3) := by decide +kernel
theorem dX11_out_46 : decode cX11_out 46 = .ok (.getfield 211, 3) := by decide +kernel
theorem dX11_out_49 : decode cX11_out 49 = .ok (.ifCond .le 19, 3) := by decide +kernel
theorem dX11_out_52 : decode cX11_out 52 = .ok (.iload_n 1, 1) := by decide +kernel
theorem dX11_out_53 : decode cX11_out 53 = .ok (.ifCond .ne 7, 3) := by decide +kernel
theorem dX11_out_56 : decode cX11_out 56 = .ok (.iload_n 2, 1) := by decide +kernel
theorem dX11_out_57 : decode cX11_out 57 = .ok (.goto 10, 3) := by decide +kernel
theorem dX11_out_60 : decode cX11_out 60 = .ok (.aload_n 0, 1) := by decide +kernel
theorem dX11_out_61 : decode cX11_out 61 = .ok (.getfield 64, 3) := by decide +kernel
theorem dX11_out_64 : decode cX11_out 64 = .ok (.getfield 226, 3) := by decide +kernel
theorem dX11_out_67 : decode cX11_out 67 = .ok (.ireturn, 1) := by decide +kernel
theorem dX11_out_68 : decode cX11_out 68 = .ok (.iinc 2 1, 3) := by decide +kernel
theorem dX11_out_71 : decode cX11_out 71 = .ok (.goto (-43), 3) := by decide +kernel
theorem dX11_out_74 : decode cX11_out 74 = .ok (.aload_n 0, 1) := by decide +kernel
theorem dX11_out_75 : decode cX11_out 75 = .ok (.iconst 2, 1) := by decide +kernel
theorem dX11_out_76 : decode cX11_out 76 = .ok (.invokevirtual 109, 3) := by decide +kernel
theorem dX11_out_79 : decode cX11_out 79 = .ok (.ireturn, 1) := by decide +kernel
theorem dX11_eyeFor_0 : decode cX11_eyeFor 0 = .ok (.aload_n 0, 1) := by decide +kernel
theorem dX11_eyeFor_1 : decode cX11_eyeFor 1 = .ok (.iload_n 1, 1) := by decide +kernel
theorem dX11_eyeFor_2 : decode cX11_eyeFor 2 = .ok (.invokevirtual 157, 3) := by decide +kernel
theorem dX11_eyeFor_5 : decode cX11_eyeFor 5 = .ok (.ifCond .ne 30, 3) := by decide +kernel
theorem dX11_eyeFor_8 : decode cX11_eyeFor 8 = .ok (.iload_n 2, 1) := by decide +kernel
theorem dX11_eyeFor_9 : decode cX11_eyeFor 9 = .ok (.invokestatic 173, 3) := by decide +kernel
theorem dX11_eyeFor_12 : decode cX11_eyeFor 12 = .ok (.ifCond .ne 23, 3) := by decide +kernel
theorem dX11_eyeFor_15 : decode cX11_eyeFor 15 = .ok (.iload_n 3, 1) := by decide +kernel
theorem dX11_eyeFor_16 : decode cX11_eyeFor 16 = .ok (.iconst 0, 1) := by decide +kernel
theorem dX11_eyeFor_17 : decode cX11_eyeFor 17 = .ok (.bipush 60, 2) := by decide +kernel
theorem dX11_eyeFor_19 : decode cX11_eyeFor 19 = .ok (.invokestatic 105, 3) := by decide +kernel
theorem dX11_eyeFor_22 : decode cX11_eyeFor 22 = .ok (.ifCond .ne 13, 3) := by decide +kernel
theorem dX11_eyeFor_25 : decode cX11_eyeFor 25 = .ok (.iload 4, 2) := by decide +kernel
theorem dX11_eyeFor_27 : decode cX11_eyeFor 27 = .ok (.iconst 0, 1) := by decide +kernel
theorem dX11_eyeFor_28 : decode cX11_eyeFor 28 = .ok (.iconst 1, 1) := by decide +kernel
theorem dX11_eyeFor_29 : decode cX11_eyeFor 29 = .ok (.invokestatic 105, 3) := by decide +kernel
theorem dX11_eyeFor_32 : decode cX11_eyeFor 32 = .ok (.ifCond .eq 9, 3) := by decide +kernel
theorem dX11_eyeFor_35 : decode cX11_eyeFor 35 = .ok (.aload_n 0, 1) := by decide +kernel
theorem dX11_eyeFor_36 : decode cX11_eyeFor 36 = .ok (.iconst 1, 1) := by decide +kernel
theorem dX11_eyeFor_37 : decode cX11_eyeFor 37 = .ok (.invokevirtual 109, 3) := by decide +kernel
theorem dX11_eyeFor_40 : decode cX11_eyeFor 40 = .ok (.ireturn, 1) := by decide +kernel
theorem dX11_eyeFor_41 : decode cX11_eyeFor 41 = .ok (.aload_n 0, 1) := by decide +kernel
theorem dX11_eyeFor_42 : decode cX11_eyeFor 42 = .ok (.getfield 60, 3) := by decide +kernel
theorem dX11_eyeFor_45 : decode cX11_eyeFor 45 = .ok (.getfield 119, 3) := by decide +kernel
theorem dX11_eyeFor_48 : decode cX11_eyeFor 48 = .ok (.ifCond .ne 9, 3) := by decide +kernel
theorem dX11_eyeFor_51 : decode cX11_eyeFor 51 = .ok (.aload_n 0, 1) := by decide +kernel
theorem dX11_eyeFor_52 : decode cX11_eyeFor 52 = .ok (.iconst 2, 1) := by decide +kernel
theorem dX11_eyeFor_53 : decode cX11_eyeFor 53 = .ok (.invokevirtual 109, 3) := by decide +kernel
theorem dX11_eyeFor_56 : decode cX11_eyeFor 56 = .ok (.ireturn, 1) := by decide +kernel
theorem dX11_eyeFor_57 : decode cX11_eyeFor 57 = .ok (.iconst (-1), 1) := by decide +kernel
theorem dX11_eyeFor_58 : decode cX11_eyeFor 58 = .ok (.istore 5, 2) := by decide +kernel
theorem dX11_eyeFor_60 : decode cX11_eyeFor 60 = .ok (.iconst (-1), 1) := by decide +kernel
theorem dX11_eyeFor_61 : decode cX11_eyeFor 61 = .ok (.istore 6, 2) := by decide +kernel
theorem dX11_eyeFor_63 : decode cX11_eyeFor 63 = .ok (.iconst 0, 1) := by decide +kernel
theorem dX11_eyeFor_64 : decode cX11_eyeFor 64 = .ok (.istore 7, 2) := by decide +kernel
theorem dX11_eyeFor_66 : decode cX11_eyeFor 66 = .ok (.iload 7, 2) := by decide +kernel
theorem dX11_eyeFor_68 : decode cX11_eyeFor 68 = .ok (.aload_n 0, 1) := by decide +kernel
theorem dX11_eyeFor_69 : decode cX11_eyeFor 69 = .ok (.getfield 60, 3) := by decide +kernel
theorem dX11_eyeFor_72 : decode cX11_eyeFor 72 = .ok (.getfield 119, 3) := by decide +kernel
theorem dX11_eyeFor_75 : decode cX11_eyeFor 75 = .ok (.if_icmp .ge 69, 3) := by decide +kernel
theorem dX11_eyeFor_78 : decode cX11_eyeFor 78 = .ok (.aload_n 0, 1) := by decide +kernel
theorem dX11_eyeFor_79 : decode cX11_eyeFor 79 = .ok (.getfield 64, 3) := by decide +kernel
theorem dX11_eyeFor_82 : decode cX11_eyeFor 82 = .ok (.aload_n 0, 1) := by decide +kernel
theorem dX11_eyeFor_83 : decode cX11_eyeFor 83 = .ok (.getfield 60, 3) := by decide +kernel
theorem dX11_eyeFor_86 : decode cX11_eyeFor 86 = .ok (.invokevirtual 223, 3) := by decide +kernel
theorem dX11_eyeFor_89 : decode cX11_eyeFor 89 = .ok (.aload_n 0, 1) := by decide +kernel
theorem dX11_eyeFor_90 : decode cX11_eyeFor 90 = .ok (.getfield 64, 3) := by decide +kernel
theorem dX11_eyeFor_93 : decode cX11_eyeFor 93 = .ok (.iload_n 1, 1) := by decide +kernel
theorem dX11_eyeFor_94 : decode cX11_eyeFor 94 = .ok (.iload_n 2, 1) := by decide +kernel
theorem dX11_eyeFor_95 : decode cX11_eyeFor 95 = .ok (.iload 7, 2) := by decide +kernel
theorem dX11_eyeFor_97 : decode cX11_eyeFor 97 = .ok (.invokevirtual 176, 3) := by decide +kernel
theorem dX11_eyeFor_100 : decode cX11_eyeFor 100 = .ok (.pop, 1) := by decide +kernel
theorem dX11_eyeFor_101 : decode cX11_eyeFor 101 = .ok (.aload_n 0, 1) := by decide +kernel
theorem dX11_eyeFor_102 : decode cX11_eyeFor 102 = .ok (.getfield 64, 3) := by decide +kernel
theorem dX11_eyeFor_105 : decode cX11_eyeFor 105 = .ok (.iload_n 3, 1) := by decide +kernel
theorem dX11_eyeFor_106 : decode cX11_eyeFor 106 = .ok (.invokevirtual 214, 3) := by decide +kernel
theorem dX11_eyeFor_109 : decode cX11_eyeFor 109 = .ok (.aload_n 0, 1) := by decide +kernel
theorem dX11_eyeFor_110 : decode cX11_eyeFor 110 = .ok (.getfield 64, 3) := by decide +kernel
theorem dX11_eyeFor_113 : decode cX11_eyeFor 113 = .ok (.getfield 167, 3) := by decide +kernel
theorem dX11_eyeFor_116 : decode cX11_eyeFor 116 = .ok (.iload_n 1, 1) := by decide +kernel
theorem dX11_eyeFor_117 : decode cX11_eyeFor 117 = .ok (.iaload, 1) := by decide +kernel
theorem dX11_eyeFor_118 : decode cX11_eyeFor 118 = .ok (.iload 6, 2) := by decide +kernel
theorem dX11_eyeFor_120 : decode cX11_eyeFor 120 = .ok (.if_icmp .le 18, 3) := by decide +kernel
theorem dX11_eyeFor_123 : decode cX11_eyeFor 123 = .ok (.aload_n 0, 1) := by decide +kernel
theorem dX11_eyeFor_124 : decode cX11_eyeFor 124 = .ok (.getfield 64, 3) := by decide +kernel
theorem dX11_eyeFor_127 : decode cX11_eyeFor 127 = .ok (.getfield 167, 3) := by decide +kernel
theorem dX11_eyeFor_130 : decode cX11_eyeFor 130 = .ok (.iload_n 1, 1) := by decide +kernel
theorem dX11_eyeFor_131 : decode cX11_eyeFor 131 = .ok (.iaload, 1) := by decide +kernel
theorem dX11_eyeFor_132 : decode cX11_eyeFor 132 = .ok (.istore 6, 2) := by decide +kernel
theorem dX11_eyeFor_134 : decode cX11_eyeFor 134 = .ok (.iload 7, 2) := by decide +kernel
theorem dX11_eyeFor_136 : decode cX11_eyeFor 136 = .ok (.istore 5, 2) := by decide +kernel
theorem dX11_eyeFor_138 : decode cX11_eyeFor 138 = .ok (.iinc 7 1, 3) := by decide +kernel
theorem dX11_eyeFor_141 : decode cX11_eyeFor 141 = .ok (.goto (-75), 3) := by decide +kernel
theorem dX11_eyeFor_144 : decode cX11_eyeFor 144 = .ok (.iload 4, 2) := by decide +kernel
theorem dX11_eyeFor_146 : decode cX11_eyeFor 146 = .ok (.ifCond .ne 8, 3) := by decide +kernel
theorem dX11_eyeFor_149 : decode cX11_eyeFor 149 = .ok (.iload 5, 2) := by decide +kernel
theorem dX11_eyeFor_151 : decode cX11_eyeFor 151 = .ok (.goto 5, 3) := by decide +kernel
theorem dX11_eyeFor_154 : decode cX11_eyeFor 154 = .ok (.iload 6, 2) := by decide +kernel
theorem dX11_eyeFor_156 : decode cX11_eyeFor 156 = .ok (.ireturn, 1) := by decide +kernel
theorem dX11_watch_0 : decode cX11_watch 0 = .ok (.aload_n 0, 1) := by decide +kernel
theorem dX11_watch_1 : decode cX11_watch 1 = .ok (.iload_n 1, 1) := by decide +kernel
theorem dX11_watch_2 : decode cX11_watch 2 = .ok (.invokevirtual 157, 3) := by decide +kernel
theorem dX11_watch_5 : decode cX11_watch 5 = .ok (.ifCond .ne 10, 3) := by decide +kernel
theorem dX11_watch_8 : decode cX11_watch 8 = .ok (.iload_n 2, 1) := by decide +kernel
theorem dX11_watch_9 : decode cX11_watch 9 = .ok (.invokestatic 101, 3) := by decide +kernel
theorem dX11_watch_12 : decode cX11_watch 12 = .ok (.ifCond .eq 9, 3) := by decide +kernel
theorem dX11_watch_15 : decode cX11_watch 15 = .ok (.aload_n 0, 1) := by decide +kernel
theorem dX11_watch_16 : decode cX11_watch 16 = .ok (.iconst 1, 1) := by decide +kernel
theorem dX11_watch_17 : decode cX11_watch 17 = .ok (.invokevirtual 109, 3) := by decide +kernel
theorem dX11_watch_20 : decode cX11_watch 20 = .ok (.ireturn, 1) := by decide +kernel
theorem dX11_watch_21 : decode cX11_watch 21 = .ok (.aload_n 0, 1) := by decide +kernel
theorem dX11_watch_22 : decode cX11_watch 22 = .ok (.getfield 64, 3) := by decide +kernel
theorem dX11_watch_25 : decode cX11_watch 25 = .ok (.aload_n 0, 1) := by decide +kernel
theorem dX11_watch_26 : decode cX11_watch 26 = .ok (.getfield 60, 3) := by decide +kernel
theorem dX11_watch_29 : decode cX11_watch 29 = .ok (.invokevirtual 223, 3) := by decide +kernel
theorem dX11_watch_32 : decode cX11_watch 32 = .ok (.iconst 1, 1) := by decide +kernel
theorem dX11_watch_33 : decode cX11_watch 33 = .ok (.istore_n 3, 1) := by decide +kernel
theorem dX11_watch_34 : decode cX11_watch 34 = .ok (.iload_n 3, 1) := by decide +kernel
theorem dX11_watch_35 : decode cX11_watch 35 = .ok (.bipush 60, 2) := by decide +kernel
theorem dX11_watch_37 : decode cX11_watch 37 = .ok (.if_icmp .gt 32, 3) := by decide +kernel
theorem dX11_watch_40 : decode cX11_watch 40 = .ok (.aload_n 0, 1) := by decide +kernel
theorem dX11_watch_41 : decode cX11_watch 41 = .ok (.getfield 64, 3) := by decide +kernel
theorem dX11_watch_44 : decode cX11_watch 44 = .ok (.iconst 1, 1) := by decide +kernel
theorem dX11_watch_45 : decode cX11_watch 45 = .ok (.invokevirtual 214, 3) := by decide +kernel
theorem dX11_watch_48 : decode cX11_watch 48 = .ok (.aload_n 0, 1) := by decide +kernel
theorem dX11_watch_49 : decode cX11_watch 49 = .ok (.getfield 64, 3) := by decide +kernel
theorem dX11_watch_52 : decode cX11_watch 52 = .ok (.getfield 229, 3) := by decide +kernel
theorem dX11_watch_55 : decode cX11_watch 55 = .ok (.iload_n 1, 1) := by decide +kernel
theorem dX11_watch_56 : decode cX11_watch 56 = .ok (.iaload, 1) := by decide +kernel
theorem dX11_watch_57 : decode cX11_watch 57 = .ok (.iload_n 2, 1) := by decide +kernel
theorem dX11_watch_58 : decode cX11_watch 58 = .ok (.if_icmp .ne 5, 3) := by decide +kernel
theorem dX11_watch_61 : decode cX11_watch 61 = .ok (.iload_n 3, 1) := by decide +kernel
theorem dX11_watch_62 : decode cX11_watch 62 = .ok (.ireturn, 1) := by decide +kernel
theorem dX11_watch_63 : decode cX11_watch 63 = .ok (.iinc 3 1, 3) := by decide +kernel
theorem dX11_watch_66 : decode cX11_watch 66 = .ok (.goto (-32), 3) := by decide +kernel
theorem dX11_watch_69 : decode cX11_watch 69 = .ok (.aload_n 0, 1) := by decide +kernel
theorem dX11_watch_70 : decode cX11_watch 70 = .ok (.iconst 2, 1) := by decide +kernel
theorem dX11_watch_71 : decode cX11_watch 71 = .ok (.invokevirtual 109, 3) := by decide +kernel
theorem dX11_watch_74 : decode cX11_watch 74 = .ok (.ireturn, 1) := by decide +kernel
theorem dX11_whose_0 : decode cX11_whose 0 = .ok (.iload_n 1, 1) := by decide +kernel
theorem dX11_whose_1 : decode cX11_whose 1 = .ok (.invokestatic 232, 3) := by decide +kernel
theorem dX11_whose_4 : decode cX11_whose 4 = .ok (.ifCond .ne 20, 3) := by decide +kernel
theorem dX11_whose_7 : decode cX11_whose 7 = .ok (.aload_n 0, 1) := by decide +kernel
theorem dX11_whose_8 : decode cX11_whose 8 = .ok (.iload_n 2, 1) := by decide +kernel
theorem dX11_whose_9 : decode cX11_whose 9 = .ok (.invokevirtual 157, 3) := by decide +kernel
theorem dX11_whose_12 : decode cX11_whose 12 = .ok (.ifCond .ne 12, 3) := by decide +kernel
theorem dX11_whose_15 : decode cX11_whose 15 = .ok (.iload_n 3, 1) := by decide +kernel
theorem dX11_whose_16 : decode cX11_whose 16 = .ok (.iconst 0, 1) := by decide +kernel
theorem dX11_whose_17 : decode cX11_whose 17 = .ok (.iconst 1, 1) := by decide +kernel
theorem dX11_whose_18 : decode cX11_whose 18 = .ok (.invokestatic 105, 3) := by decide +kernel
theorem dX11_whose_21 : decode cX11_whose 21 = .ok (.ifCond .eq 9, 3) := by decide +kernel
theorem dX11_whose_24 : decode cX11_whose 24 = .ok (.aload_n 0, 1) := by decide +kernel
theorem dX11_whose_25 : decode cX11_whose 25 = .ok (.iconst 1, 1) := by decide +kernel
theorem dX11_whose_26 : decode cX11_whose 26 = .ok (.invokevirtual 109, 3) := by decide +kernel
theorem dX11_whose_29 : decode cX11_whose 29 = .ok (.ireturn, 1) := by decide +kernel
theorem dX11_whose_30 : decode cX11_whose 30 = .ok (.aload_n 0, 1) := by decide +kernel
theorem dX11_whose_31 : decode cX11_whose 31 = .ok (.getfield 89, 3) := by decide +kernel
theorem dX11_whose_34 : decode cX11_whose 34 = .ok (.iload_n 1, 1) := by decide +kernel
theorem dX11_whose_35 : decode cX11_whose 35 = .ok (.aaload, 1) := by decide +kernel
theorem dX11_whose_36 : decode cX11_whose 36 = .ok (.getfield 235, 3) := by decide +kernel
theorem dX11_whose_39 : decode cX11_whose 39 = .ok (.ifCond .ne 9, 3) := by decide +kernel
theorem dX11_whose_42 : decode cX11_whose 42 = .ok (.aload_n 0, 1) := by decide +kernel
theorem dX11_whose_43 : decode cX11_whose 43 = .ok (.iconst 2, 1) := by decide +kernel
theorem dX11_whose_44 : decode cX11_whose 44 = .ok (.invokevirtual 109, 3) := by decide +kernel
theorem dX11_whose_47 : decode cX11_whose 47 = .ok (.ireturn, 1) := by decide +kernel
theorem dX11_whose_48 : decode cX11_whose 48 = .ok (.iconst 0, 1) := by decide +kernel
theorem dX11_whose_49 : decode cX11_whose 49 = .ok (.istore 4, 2) := by decide +kernel
theorem dX11_whose_51 : decode cX11_whose 51 = .ok (.iconst 0, 1) := by decide +kernel
theorem dX11_whose_52 : decode cX11_whose 52 = .ok (.istore 5, 2) := by decide +kernel
theorem dX11_whose_54 : decode cX11_whose 54 = .ok (.iload 5, 2) := by decide +kernel
theorem dX11_whose_56 : decode cX11_whose 56 = .ok (.aload_n 0, 1) := by decide +kernel
theorem dX11_whose_57 : decode cX11_whose 57 = .ok (.getfield 60, 3) := by decide +kernel
theorem dX11_whose_60 : decode cX11_whose 60 = .ok (.getfield 119, 3) := by decide +kernel
theorem dX11_whose_63 : decode cX11_whose 63 = .ok (.if_icmp .ge 34, 3) := by decide +kernel
theorem dX11_whose_66 : decode cX11_whose 66 = .ok (.aload_n 0, 1) := by decide +kernel
theorem dX11_whose_67 : decode cX11_whose 67 = .ok (.iload 5, 2) := by decide +kernel
theorem dX11_whose_69 : decode cX11_whose 69 = .ok (.aload_n 0, 1) := by decide +kernel
theorem dX11_whose_70 : decode cX11_whose 70 = .ok (.getfield 89, 3) := by decide +kernel
theorem dX11_whose_73 : decode cX11_whose 73 = .ok (.iload_n 1, 1) := by decide +kernel
theorem dX11_whose_74 : decode cX11_whose 74 = .ok (.aaload, 1) := by decide +kernel
theorem dX11_whose_75 : decode cX11_whose 75 = .ok (.iload_n 2, 1) := by decide +kernel
theorem dX11_whose_76 : decode cX11_whose 76 = .ok (.invokevirtual 238, 3) := by decide +kernel
theorem dX11_whose_79 : decode cX11_whose 79 = .ok (.ifCond .eq 12, 3) := by decide +kernel
theorem dX11_whose_82 : decode cX11_whose 82 = .ok (.iload 4, 2) := by decide +kernel
theorem dX11_whose_84 : decode cX11_whose 84 = .ok (.iconst 1, 1) := by decide +kernel
theorem dX11_whose_85 : decode cX11_whose 85 = .ok (.iload 5, 2) := by decide +kernel
theorem dX11_whose_87 : decode cX11_whose 87 = .ok (.ishl, 1) := by decide +kernel
theorem dX11_whose_88 : decode cX11_whose 88 = .ok (.ior, 1) := by decide +kernel
theorem dX11_whose_89 : decode cX11_whose 89 = .ok (.istore 4, 2) := by decide +kernel
theorem dX11_whose_91 : decode cX11_whose 91 = .ok (.iinc 5 1, 3) := by decide +kernel
theorem dX11_whose_94 : decode cX11_whose 94 = .ok (.goto (-40), 3) := by decide +kernel
theorem dX11_whose_97 : decode cX11_whose 97 = .ok (.iload_n 3, 1) := by decide +kernel
theorem dX11_whose_98 : decode cX11_whose 98 = .ok (.ifCond .ne 8, 3) := by decide +kernel
theorem dX11_whose_101 : decode cX11_whose 101 = .ok (.iload 4, 2) := by decide +kernel
theorem dX11_whose_103 : decode cX11_whose 103 = .ok (.goto 8, 3) := by decide +kernel
theorem dX11_whose_106 : decode cX11_whose 106 = .ok (.iload 4, 2) := by decide +kernel
theorem dX11_whose_108 : decode cX11_whose 108 = .ok (.invokestatic 242, 3) := by decide +kernel
theorem dX11_whose_111 : decode cX11_whose 111 = .ok (.ireturn, 1) := by decide +kernel
theorem dX11_lend_0 : decode cX11_lend 0 = .ok (.iload_n 1, 1) := by decide +kernel
theorem dX11_lend_1 : decode cX11_lend 1 = .ok (.iconst 0, 1) := by decide +kernel
theorem dX11_lend_2 : decode cX11_lend 2 = .ok (.bipush 30, 2) := by decide +kernel
theorem dX11_lend_4 : decode cX11_lend 4 = .ok (.invokestatic 105, 3) := by decide +kernel
theorem dX11_lend_7 : decode cX11_lend 7 = .ok (.ifCond .eq 9, 3) := by decide +kernel
theorem dX11_lend_10 : decode cX11_lend 10 = .ok (.aload_n 0, 1) := by decide +kernel
theorem dX11_lend_11 : decode cX11_lend 11 = .ok (.iconst 1, 1) := by decide +kernel
theorem dX11_lend_12 : decode cX11_lend 12 = .ok (.invokevirtual 109, 3) := by decide +kernel
theorem dX11_lend_15 : decode cX11_lend 15 = .ok (.ireturn, 1) := by decide +kernel
theorem dX11_lend_16 : decode cX11_lend 16 = .ok (.iconst (-1), 1) := by decide +kernel
theorem dX11_lend_17 : decode cX11_lend 17 = .ok (.istore_n 2, 1) := by decide +kernel
theorem dX11_lend_18 : decode cX11_lend 18 = .ok (.iconst (-1), 1) := by decide +kernel
theorem dX11_lend_19 : decode cX11_lend 19 = .ok (.istore_n 3, 1) := by decide +kernel
theorem dX11_lend_20 : decode cX11_lend 20 = .ok (.iconst 0, 1) := by decide +kernel
theorem dX11_lend_21 : decode cX11_lend 21 = .ok (.istore 4, 2) := by decide +kernel
theorem dX11_lend_23 : decode cX11_lend 23 = .ok (.iload 4, 2) := by decide +kernel
theorem dX11_lend_25 : decode cX11_lend 25 = .ok (.aload_n 0, 1) := by decide +kernel
theorem dX11_lend_26 : decode cX11_lend 26 = .ok (.getfield 60, 3) := by decide +kernel
theorem dX11_lend_29 : decode cX11_lend 29 = .ok (.getfield 119, 3) := by decide +kernel
theorem dX11_lend_32 : decode cX11_lend 32 = .ok (.if_icmp .ge 90, 3) := by decide +kernel
theorem dX11_lend_35 : decode cX11_lend 35 = .ok (.iconst 0, 1) := by decide +kernel
theorem dX11_lend_36 : decode cX11_lend 36 = .ok (.istore 5, 2) := by decide +kernel
theorem dX11_lend_38 : decode cX11_lend 38 = .ok (.iload 5, 2) := by decide +kernel
theorem dX11_lend_40 : decode cX11_lend 40 = .ok (.iconst 2, 1) := by decide +kernel
theorem dX11_lend_41 : decode cX11_lend 41 = .ok (.aload_n 0, 1) := by decide +kernel
theorem dX11_lend_42 : decode cX11_lend 42 = .ok (.getfield 60, 3) := by decide +kernel
theorem dX11_lend_45 : decode cX11_lend 45 = .ok (.getfield 150, 3) := by decide +kernel
theorem dX11_lend_48 : decode cX11_lend 48 = .ok (.imul, 1) := by decide +kernel
theorem dX11_lend_49 : decode cX11_lend 49 = .ok (.if_icmp .ge 67, 3) := by decide +kernel
theorem dX11_lend_52 : decode cX11_lend 52 = .ok (.aload_n 0, 1) := by decide +kernel
theorem dX11_lend_53 : decode cX11_lend 53 = .ok (.getfield 60, 3) := by decide +kernel
theorem dX11_lend_56 : decode cX11_lend 56 = .ok (.iload 4, 2) := by decide +kernel
theorem dX11_lend_58 : decode cX11_lend 58 = .ok (.invokevirtual 247, 3) := by decide +kernel
theorem dX11_lend_61 : decode cX11_lend 61 = .ok (.ifCond .ge 49, 3) := by decide +kernel
theorem dX11_lend_64 : decode cX11_lend 64 = .ok (.aload_n 0, 1) := by decide +kernel
theorem dX11_lend_65 : decode cX11_lend 65 = .ok (.getfield 60, 3) := by decide +kernel
theorem dX11_lend_68 : decode cX11_lend 68 = .ok (.getfield 250, 3) := by decide +kernel
theorem dX11_lend_71 : decode cX11_lend 71 = .ok (.iload 5, 2) := by decide +kernel
theorem dX11_lend_73 : decode cX11_lend 73 = .ok (.iaload, 1) := by decide +kernel
theorem dX11_lend_74 : decode cX11_lend 74 = .ok (.iconst (-1), 1) := by decide +kernel
theorem dX11_lend_75 : decode cX11_lend 75 = .ok (.if_icmp .ne 35, 3) := by decide +kernel
theorem dX11_lend_78 : decode cX11_lend 78 = .ok (.aload_n 0, 1) := by decide +kernel
theorem dX11_lend_79 : decode cX11_lend 79 = .ok (.iload 4, 2) := by decide +kernel
theorem dX11_lend_81 : decode cX11_lend 81 = .ok (.iload 5, 2) := by decide +kernel
theorem dX11_lend_83 : decode cX11_lend 83 = .ok (.iload_n 1, 1) := by decide +kernel
theorem dX11_lend_84 : decode cX11_lend 84 = .ok (.invokevirtual 253, 3) := by decide +kernel
theorem dX11_lend_87 : decode cX11_lend 87 = .ok (.istore 6, 2) := by decide +kernel
theorem dX11_lend_89 : decode cX11_lend 89 = .ok (.iload 6, 2) := by decide +kernel
theorem dX11_lend_91 : decode cX11_lend 91 = .ok (.iload_n 3, 1) := by decide +kernel
theorem dX11_lend_92 : decode cX11_lend 92 = .ok (.if_icmp .le 18, 3) := by decide +kernel
theorem dX11_lend_95 : decode cX11_lend 95 = .ok (.iload 6, 2) := by decide +kernel
theorem dX11_lend_97 : decode cX11_lend 97 = .ok (.istore_n 3, 1) := by decide +kernel
theorem dX11_lend_98 : decode cX11_lend 98 = .ok (.bipush 100, 2) := by decide +kernel
theorem dX11_lend_100 : decode cX11_lend 100 = .ok (.iload 4, 2) := by decide +kernel
theorem dX11_lend_102 : decode cX11_lend 102 = .ok (.imul, 1) := by decide +kernel
theorem dX11_lend_103 : decode cX11_lend 103 = .ok (.iload 5, 2) := by decide +kernel
theorem dX11_lend_105 : decode cX11_lend 105 = .ok (.invokestatic 256, 3) := by decide +kernel
theorem dX11_lend_108 : decode cX11_lend 108 = .ok (.iadd, 1) := by decide +kernel
theorem dX11_lend_109 : decode cX11_lend 109 = .ok (.istore_n 2, 1) := by decide +kernel
theorem dX11_lend_110 : decode cX11_lend 110 = .ok (.iinc 5 1, 3) := by decide +kernel
theorem dX11_lend_113 : decode cX11_lend 113 = .ok (.goto (-75), 3) := by decide +kernel
theorem dX11_lend_116 : decode cX11_lend 116 = .ok (.iinc 4 1, 3) := by decide +kernel
theorem dX11_lend_119 : decode cX11_lend 119 = .ok (.goto (-96), 3) := by decide +kernel
theorem dX11_lend_122 : decode cX11_lend 122 = .ok (.iload_n 2, 1) := by decide +kernel
theorem dX11_lend_123 : decode cX11_lend 123 = .ok (.ireturn, 1) := by decide +kernel
theorem dX11_blind_0 : decode cX11_blind 0 = .ok (.iload_n 1, 1) := by decide +kernel
theorem dX11_blind_1 : decode cX11_blind 1 = .ok (.iconst 0, 1) := by decide +kernel
theorem dX11_blind_2 : decode cX11_blind 2 = .ok (.bipush 60, 2) := by decide +kernel
theorem dX11_blind_4 : decode cX11_blind 4 = .ok (.invokestatic 105, 3) := by decide +kernel
theorem dX11_blind_7 : decode cX11_blind 7 = .ok (.ifCond .eq 9, 3) := by decide +kernel
theorem dX11_blind_10 : decode cX11_blind 10 = .ok (.aload_n 0, 1) := by decide +kernel
theorem dX11_blind_11 : decode cX11_blind 11 = .ok (.iconst 1, 1) := by decide +kernel
theorem dX11_blind_12 : decode cX11_blind 12 = .ok (.invokevirtual 109, 3) := by decide +kernel
theorem dX11_blind_15 : decode cX11_blind 15 = .ok (.ireturn, 1) := by decide +kernel
theorem dX11_blind_16 : decode cX11_blind 16 = .ok (.aload_n 0, 1) := by decide +kernel
theorem dX11_blind_17 : decode cX11_blind 17 = .ok (.iload_n 1, 1) := by decide +kernel
theorem dX11_blind_18 : decode cX11_blind 18 = .ok (.invokevirtual 220, 3) := by decide +kernel
theorem dX11_blind_21 : decode cX11_blind 21 = .ok (.sipush 1023, 3) := by decide +kernel
theorem dX11_blind_24 : decode cX11_blind 24 = .ok (.aload_n 0, 1) := by decide +kernel
theorem dX11_blind_25 : decode cX11_blind 25 = .ok (.getfield 64, 3) := by decide +kernel
theorem dX11_blind_28 : decode cX11_blind 28 = .ok (.invokevirtual 259, 3) := by decide +kernel
theorem dX11_blind_31 : decode cX11_blind 31 = .ok (.iconst (-1), 1) := by decide +kernel
theorem dX11_blind_32 : decode cX11_blind 32 = .ok (.ixor, 1) := by decide +kernel
theorem dX11_blind_33 : decode cX11_blind 33 = .ok (.iand, 1) := by decide +kernel
theorem dX11_blind_34 : decode cX11_blind 34 = .ok (.ireturn, 1) := by decide +kernel
theorem dX11_agree_0 : decode cX11_agree 0 = .ok (.iload_n 1, 1) := by decide +kernel
theorem dX11_agree_1 : decode cX11_agree 1 = .ok (.iconst 0, 1) := by decide +kernel
theorem dX11_agree_2 : decode cX11_agree 2 = .ok (.iconst 1, 1) := by decide +kernel
theorem dX11_agree_3 : decode cX11_agree 3 = .ok (.invokestatic 105, 3) := by decide +kernel
theorem dX11_agree_6 : decode cX11_agree 6 = .ok (.ifCond .eq 9, 3) := by decide +kernel
theorem dX11_agree_9 : decode cX11_agree 9 = .ok (.aload_n 0, 1) := by decide +kernel
theorem dX11_agree_10 : decode cX11_agree 10 = .ok (.iconst 1, 1) := by decide +kernel
theorem dX11_agree_11 : decode cX11_agree 11 = .ok (.invokevirtual 109, 3) := by decide +kernel
theorem dX11_agree_14 : decode cX11_agree 14 = .ok (.ireturn, 1) := by decide +kernel
theorem dX11_agree_15 : decode cX11_agree 15 = .ok (.iconst (-1), 1) := by decide +kernel
theorem dX11_agree_16 : decode cX11_agree 16 = .ok (.istore_n 2, 1) := by decide +kernel
theorem dX11_agree_17 : decode cX11_agree 17 = .ok (.iconst 0, 1) := by decide +kernel
theorem dX11_agree_18 : decode cX11_agree 18 = .ok (.istore_n 3, 1) := by decide +kernel
theorem dX11_agree_19 : decode cX11_agree 19 = .ok (.aload_n 0, 1) := by decide +kernel
theorem dX11_agree_20 : decode cX11_agree 20 = .ok (.getfield 64, 3) := by decide +kernel
theorem dX11_agree_23 : decode cX11_agree 23 = .ok (.aload_n 0, 1) := by decide +kernel
theorem dX11_agree_24 : decode cX11_agree 24 = .ok (.getfield 60, 3) := by decide +kernel
theorem dX11_agree_27 : decode cX11_agree 27 = .ok (.invokevirtual 223, 3) := by decide +kernel
theorem dX11_agree_30 : decode cX11_agree 30 = .ok (.iconst 0, 1) := by decide +kernel
theorem dX11_agree_31 : decode cX11_agree 31 = .ok (.istore 4, 2) := by decide +kernel
theorem dX11_agree_33 : decode cX11_agree 33 = .ok (.iload 4, 2) := by decide +kernel
theorem dX11_agree_35 : decode cX11_agree 35 = .ok (.bipush 12, 2) := by decide +kernel
theorem dX11_agree_37 : decode cX11_agree 37 = .ok (.if_icmp .ge 38, 3) := by decide +kernel
theorem dX11_agree_40 : decode cX11_agree 40 = .ok (.aload_n 0, 1) := by decide +kernel
theorem dX11_agree_41 : decode cX11_agree 41 = .ok (.getfield 64, 3) := by decide +kernel
theorem dX11_agree_44 : decode cX11_agree 44 = .ok (.iconst 1, 1) := by decide +kernel
theorem dX11_agree_45 : decode cX11_agree 45 = .ok (.invokevirtual 214, 3) := by decide +kernel
theorem dX11_agree_48 : decode cX11_agree 48 = .ok (.aload_n 0, 1) := by decide +kernel
theorem dX11_agree_49 : decode cX11_agree 49 = .ok (.getfield 64, 3) := by decide +kernel
theorem dX11_agree_52 : decode cX11_agree 52 = .ok (.invokevirtual 262, 3) := by decide +kernel
theorem dX11_agree_55 : decode cX11_agree 55 = .ok (.istore 5, 2) := by decide +kernel
theorem dX11_agree_57 : decode cX11_agree 57 = .ok (.iload 5, 2) := by decide +kernel
theorem dX11_agree_59 : decode cX11_agree 59 = .ok (.iload_n 3, 1) := by decide +kernel
theorem dX11_agree_60 : decode cX11_agree 60 = .ok (.if_icmp .le 9, 3) := by decide +kernel
theorem dX11_agree_63 : decode cX11_agree 63 = .ok (.iload 5, 2) := by decide +kernel
theorem dX11_agree_65 : decode cX11_agree 65 = .ok (.istore_n 3, 1) := by decide +kernel
theorem dX11_agree_66 : decode cX11_agree 66 = .ok (.iload 4, 2) := by decide +kernel
theorem dX11_agree_68 : decode cX11_agree 68 = .ok (.istore_n 2, 1) := by decide +kernel
theorem dX11_agree_69 : decode cX11_agree 69 = .ok (.iinc 4 1, 3) := by decide +kernel
theorem dX11_agree_72 : decode cX11_agree 72 = .ok (.goto (-39), 3) := by decide +kernel
theorem dX11_agree_75 : decode cX11_agree 75 = .ok (.iload_n 3, 1) := by decide +kernel
theorem dX11_agree_76 : decode cX11_agree 76 = .ok (.ifCond .ne 9, 3) := by decide +kernel
theorem dX11_agree_79 : decode cX11_agree 79 = .ok (.aload_n 0, 1) := by decide +kernel
theorem dX11_agree_80 : decode cX11_agree 80 = .ok (.iconst 2, 1) := by decide +kernel
theorem dX11_agree_81 : decode cX11_agree 81 = .ok (.invokevirtual 109, 3) := by decide +kernel
theorem dX11_agree_84 : decode cX11_agree 84 = .ok (.ireturn, 1) := by decide +kernel
theorem dX11_agree_85 : decode cX11_agree 85 = .ok (.iload_n 1, 1) := by decide +kernel
theorem dX11_agree_86 : decode cX11_agree 86 = .ok (.ifCond .ne 7, 3) := by decide +kernel
theorem dX11_agree_89 : decode cX11_agree 89 = .ok (.iload_n 2, 1) := by decide +kernel
theorem dX11_agree_90 : decode cX11_agree 90 = .ok (.goto 4, 3) := by decide +kernel
theorem dX11_agree_93 : decode cX11_agree 93 = .ok (.iload_n 3, 1) := by decide +kernel
theorem dX11_agree_94 : decode cX11_agree 94 = .ok (.ireturn, 1) := by decide +kernel
theorem dX11_dreads_0 : decode cX11_dreads 0 = .ok (.iload_n 1, 1) := by decide +kernel
theorem dX11_dreads_1 : decode cX11_dreads 1 = .ok (.iconst 0, 1) := by decide +kernel
theorem dX11_dreads_2 : decode cX11_dreads 2 = .ok (.bipush 60, 2) := by decide +kernel
theorem dX11_dreads_4 : decode cX11_dreads 4 = .ok (.invokestatic 105, 3) := by decide +kernel
theorem dX11_dreads_7 : decode cX11_dreads 7 = .ok (.ifCond .eq 9, 3) := by decide +kernel
theorem dX11_dreads_10 : decode cX11_dreads 10 = .ok (.aload_n 0, 1) := by decide +kernel
theorem dX11_dreads_11 : decode cX11_dreads 11 = .ok (.iconst 1, 1) := by decide +kernel
theorem dX11_dreads_12 : decode cX11_dreads 12 = .ok (.invokevirtual 109, 3) := by decide +kernel
theorem dX11_dreads_15 : decode cX11_dreads 15 = .ok (.ireturn, 1) := by decide +kernel
theorem dX11_dreads_16 : decode cX11_dreads 16 = .ok (.aload_n 0, 1) := by decide +kernel
theorem dX11_dreads_17 : decode cX11_dreads 17 = .ok (.iload_n 1, 1) := by decide +kernel
theorem dX11_dreads_18 : decode cX11_dreads 18 = .ok (.invokevirtual 220, 3) := by decide +kernel
theorem dX11_dreads_21 : decode cX11_dreads 21 = .ok (.aload_n 0, 1) := by decide +kernel
theorem dX11_dreads_22 : decode cX11_dreads 22 = .ok (.getfield 64, 3) := by decide +kernel
theorem dX11_dreads_25 : decode cX11_dreads 25 = .ok (.getfield 265, 3) := by decide +kernel
theorem dX11_dreads_28 : decode cX11_dreads 28 = .ok (.ireturn, 1) := by decide +kernel
theorem dX11_swap_0 : decode cX11_swap 0 = .ok (.iload_n 1, 1) := by decide +kernel
theorem dX11_swap_1 : decode cX11_swap 1 = .ok (.iconst 0, 1) := by decide +kernel
theorem dX11_swap_2 : decode cX11_swap 2 = .ok (.bipush 30, 2) := by decide +kernel
theorem dX11_swap_4 : decode cX11_swap 4 = .ok (.invokestatic 105, 3) := by decide +kernel
theorem dX11_swap_7 : decode cX11_swap 7 = .ok (.ifCond .eq 9, 3) := by decide +kernel
theorem dX11_swap_10 : decode cX11_swap 10 = .ok (.aload_n 0, 1) := by decide +kernel
theorem dX11_swap_11 : decode cX11_swap 11 = .ok (.iconst 1, 1) := by decide +kernel
theorem dX11_swap_12 : decode cX11_swap 12 = .ok (.invokevirtual 109, 3) := by decide +kernel
theorem dX11_swap_15 : decode cX11_swap 15 = .ok (.ireturn, 1) := by decide +kernel
theorem dX11_swap_16 : decode cX11_swap 16 = .ok (.aload_n 0, 1) := by decide +kernel
theorem dX11_swap_17 : decode cX11_swap 17 = .ok (.iload_n 1, 1) := by decide +kernel
theorem dX11_swap_18 : decode cX11_swap 18 = .ok (.invokevirtual 220, 3) := by decide +kernel
theorem dX11_swap_21 : decode cX11_swap 21 = .ok (.iconst (-1), 1) := by decide +kernel
theorem dX11_swap_22 : decode cX11_swap 22 = .ok (.istore_n 2, 1) := by decide +kernel
theorem dX11_swap_23 : decode cX11_swap 23 = .ok (.aload_n 0, 1) := by decide +kernel
theorem dX11_swap_24 : decode cX11_swap 24 = .ok (.getfield 64, 3) := by decide +kernel
theorem dX11_swap_27 : decode cX11_swap 27 = .ok (.invokevirtual 259, 3) := by decide +kernel
theorem dX11_swap_30 : decode cX11_swap 30 = .ok (.invokestatic 242, 3) := by decide +kernel
theorem dX11_swap_33 : decode cX11_swap 33 = .ok (.istore_n 3, 1) := by decide +kernel
theorem dX11_swap_34 : decode cX11_swap 34 = .ok (.iconst 0, 1) := by decide +kernel
theorem dX11_swap_35 : decode cX11_swap 35 = .ok (.istore 4, 2) := by decide +kernel
theorem dX11_swap_37 : decode cX11_swap 37 = .ok (.iload 4, 2) := by decide +kernel
theorem dX11_swap_39 : decode cX11_swap 39 = .ok (.aload_n 0, 1) := by decide +kernel
theorem dX11_swap_40 : decode cX11_swap 40 = .ok (.getfield 60, 3) := by decide +kernel
theorem dX11_swap_43 : decode cX11_swap 43 = .ok (.getfield 150, 3) := by decide +kernel
theorem dX11_swap_46 : decode cX11_swap 46 = .ok (.if_icmp .ge 62, 3) := by decide +kernel
theorem dX11_swap_49 : decode cX11_swap 49 = .ok (.iload 4, 2) := by decide +kernel
theorem dX11_swap_51 : decode cX11_swap 51 = .ok (.iconst 1, 1) := by decide +kernel
theorem dX11_swap_52 : decode cX11_swap 52 = .ok (.iadd, 1) := by decide +kernel
theorem dX11_swap_53 : decode cX11_swap 53 = .ok (.istore 5, 2) := by decide +kernel
theorem dX11_swap_55 : decode cX11_swap 55 = .ok (.iload 5, 2) := by decide +kernel
theorem dX11_swap_57 : decode cX11_swap 57 = .ok (.aload_n 0, 1) := by decide +kernel
theorem dX11_swap_58 : decode cX11_swap 58 = .ok (.getfield 60, 3) := by decide +kernel
theorem dX11_swap_61 : decode cX11_swap 61 = .ok (.getfield 150, 3) := by decide +kernel
theorem dX11_swap_64 : decode cX11_swap 64 = .ok (.if_icmp .ge 38, 3) := by decide +kernel
theorem dX11_swap_67 : decode cX11_swap 67 = .ok (.aload_n 0, 1) := by decide +kernel
theorem dX11_swap_68 : decode cX11_swap 68 = .ok (.iload 4, 2) := by decide +kernel
theorem dX11_swap_70 : decode cX11_swap 70 = .ok (.iload 5, 2) := by decide +kernel
theorem dX11_swap_72 : decode cX11_swap 72 = .ok (.iload_n 1, 1) := by decide +kernel
theorem dX11_swap_73 : decode cX11_swap 73 = .ok (.invokevirtual 268, 3) := by decide +kernel
theorem dX11_swap_76 : decode cX11_swap 76 = .ok (.istore 6, 2) := by decide +kernel
theorem dX11_swap_78 : decode cX11_swap 78 = .ok (.iload 6, 2) := by decide +kernel
theorem dX11_swap_80 : decode cX11_swap 80 = .ok (.iload_n 3, 1) := by decide +kernel
theorem dX11_swap_81 : decode cX11_swap 81 = .ok (.if_icmp .le 15, 3) := by decide +kernel
theorem dX11_swap_84 : decode cX11_swap 84 = .ok (.iload 6, 2) := by decide +kernel
theorem dX11_swap_86 : decode cX11_swap 86 = .ok (.istore_n 3, 1) := by decide +kernel
theorem dX11_swap_87 : decode cX11_swap 87 = .ok (.bipush 10, 2) := by decide +kernel
theorem dX11_swap_89 : decode cX11_swap 89 = .ok (.iload 4, 2) := by decide +kernel
theorem dX11_swap_91 : decode cX11_swap 91 = .ok (.imul, 1) := by decide +kernel
theorem dX11_swap_92 : decode cX11_swap 92 = .ok (.iload 5, 2) := by decide +kernel
theorem dX11_swap_94 : decode cX11_swap 94 = .ok (.iadd, 1) := by decide +kernel
theorem dX11_swap_95 : decode cX11_swap 95 = .ok (.istore_n 2, 1) := by decide +kernel
theorem dX11_swap_96 : decode cX11_swap 96 = .ok (.iinc 5 1, 3) := by decide +kernel
theorem dX11_swap_99 : decode cX11_swap 99 = .ok (.goto (-44), 3) := by decide +kernel
theorem dX11_swap_102 : decode cX11_swap 102 = .ok (.iinc 4 1, 3) := by decide +kernel
theorem dX11_swap_105 : decode cX11_swap 105 = .ok (.goto (-68), 3) := by decide +kernel
theorem dX11_swap_108 : decode cX11_swap 108 = .ok (.iload_n 2, 1) := by decide +kernel
theorem dX11_swap_109 : decode cX11_swap 109 = .ok (.ireturn, 1) := by decide +kernel
theorem dX11_odds_0 : decode cX11_odds 0 = .ok (.aload_n 0, 1) := by decide +kernel
theorem dX11_odds_1 : decode cX11_odds 1 = .ok (.iload_n 1, 1) := by decide +kernel
theorem dX11_odds_2 : decode cX11_odds 2 = .ok (.invokevirtual 157, 3) := by decide +kernel
theorem dX11_odds_5 : decode cX11_odds 5 = .ok (.ifCond .ne 30, 3) := by decide +kernel
theorem dX11_odds_8 : decode cX11_odds 8 = .ok (.iload_n 2, 1) := by decide +kernel
theorem dX11_odds_9 : decode cX11_odds 9 = .ok (.invokestatic 101, 3) := by decide +kernel
theorem dX11_odds_12 : decode cX11_odds 12 = .ok (.ifCond .ne 23, 3) := by decide +kernel
theorem dX11_odds_15 : decode cX11_odds 15 = .ok (.iload_n 3, 1) := by decide +kernel
theorem dX11_odds_16 : decode cX11_odds 16 = .ok (.iconst 0, 1) := by decide +kernel
theorem dX11_odds_17 : decode cX11_odds 17 = .ok (.bipush 60, 2) := by decide +kernel
theorem dX11_odds_19 : decode cX11_odds 19 = .ok (.invokestatic 105, 3) := by decide +kernel
theorem dX11_odds_22 : decode cX11_odds 22 = .ok (.ifCond .ne 13, 3) := by decide +kernel
theorem dX11_odds_25 : decode cX11_odds 25 = .ok (.iload 4, 2) := by decide +kernel
theorem dX11_odds_27 : decode cX11_odds 27 = .ok (.iconst 0, 1) := by decide +kernel
theorem dX11_odds_28 : decode cX11_odds 28 = .ok (.iconst 1, 1) := by decide +kernel
theorem dX11_odds_29 : decode cX11_odds 29 = .ok (.invokestatic 105, 3) := by decide +kernel
theorem dX11_odds_32 : decode cX11_odds 32 = .ok (.ifCond .eq 9, 3) := by decide +kernel
theorem dX11_odds_35 : decode cX11_odds 35 = .ok (.aload_n 0, 1) := by decide +kernel
theorem dX11_odds_36 : decode cX11_odds 36 = .ok (.iconst 1, 1) := by decide +kernel
theorem dX11_odds_37 : decode cX11_odds 37 = .ok (.invokevirtual 109, 3) := by decide +kernel
theorem dX11_odds_40 : decode cX11_odds 40 = .ok (.ireturn, 1) := by decide +kernel
theorem dX11_odds_41 : decode cX11_odds 41 = .ok (.aload_n 0, 1) := by decide +kernel
theorem dX11_odds_42 : decode cX11_odds 42 = .ok (.getfield 60, 3) := by decide +kernel
theorem dX11_odds_45 : decode cX11_odds 45 = .ok (.getfield 119, 3) := by decide +kernel
theorem dX11_odds_48 : decode cX11_odds 48 = .ok (.ifCond .ne 9, 3) := by decide +kernel
theorem dX11_odds_51 : decode cX11_odds 51 = .ok (.aload_n 0, 1) := by decide +kernel
theorem dX11_odds_52 : decode cX11_odds 52 = .ok (.iconst 2, 1) := by decide +kernel
theorem dX11_odds_53 : decode cX11_odds 53 = .ok (.invokevirtual 109, 3) := by decide +kernel
theorem dX11_odds_56 : decode cX11_odds 56 = .ok (.ireturn, 1) := by decide +kernel
theorem dX11_odds_57 : decode cX11_odds 57 = .ok (.iconst 0, 1) := by decide +kernel
theorem dX11_odds_58 : decode cX11_odds 58 = .ok (.istore 5, 2) := by decide +kernel
theorem dX11_odds_60 : decode cX11_odds 60 = .ok (.iconst 0, 1) := by decide +kernel
theorem dX11_odds_61 : decode cX11_odds 61 = .ok (.istore 6, 2) := by decide +kernel
theorem dX11_odds_63 : decode cX11_odds 63 = .ok (.iload 6, 2) := by decide +kernel
theorem dX11_odds_65 : decode cX11_odds 65 = .ok (.aload_n 0, 1) := by decide +kernel
theorem dX11_odds_66 : decode cX11_odds 66 = .ok (.getfield 60, 3) := by decide +kernel
theorem dX11_odds_69 : decode cX11_odds 69 = .ok (.getfield 119, 3) := by decide +kernel
theorem dX11_odds_72 : decode cX11_odds 72 = .ok (.if_icmp .ge 56, 3) := by decide +kernel
theorem dX11_odds_75 : decode cX11_odds 75 = .ok (.aload_n 0, 1) := by decide +kernel
theorem dX11_odds_76 : decode cX11_odds 76 = .ok (.getfield 64, 3) := by decide +kernel
theorem dX11_odds_79 : decode cX11_odds 79 = .ok (.aload_n 0, 1) := by decide +kernel
theorem dX11_odds_80 : decode cX11_odds 80 = .ok (.getfield 60, 3) := by decide +kernel
theorem dX11_odds_83 : decode cX11_odds 83 = .ok (.invokevirtual 223, 3) := by decide +kernel
theorem dX11_odds_86 : decode cX11_odds 86 = .ok (.aload_n 0, 1) := by decide +kernel
theorem dX11_odds_87 : decode cX11_odds 87 = .ok (.getfield 64, 3) := by decide +kernel
theorem dX11_odds_90 : decode cX11_odds 90 = .ok (.iload_n 1, 1) := by decide +kernel
theorem dX11_odds_91 : decode cX11_odds 91 = .ok (.iload 6, 2) := by decide +kernel
theorem dX11_odds_93 : decode cX11_odds 93 = .ok (.invokevirtual 271, 3) := by decide +kernel
theorem dX11_odds_96 : decode cX11_odds 96 = .ok (.aload_n 0, 1) := by decide +kernel
theorem dX11_odds_97 : decode cX11_odds 97 = .ok (.getfield 64, 3) := by decide +kernel
theorem dX11_odds_100 : decode cX11_odds 100 = .ok (.iload_n 3, 1) := by decide +kernel
theorem dX11_odds_101 : decode cX11_odds 101 = .ok (.invokevirtual 214, 3) := by decide +kernel
theorem dX11_odds_104 : decode cX11_odds 104 = .ok (.iload 5, 2) := by decide +kernel
theorem dX11_odds_106 : decode cX11_odds 106 = .ok (.aload_n 0, 1) := by decide +kernel
theorem dX11_odds_107 : decode cX11_odds 107 = .ok (.getfield 64, 3) := by decide +kernel
theorem dX11_odds_110 : decode cX11_odds 110 = .ok (.getfield 170, 3) := by decide +kernel
theorem dX11_odds_113 : decode cX11_odds 113 = .ok (.iload_n 1, 1) := by decide +kernel
theorem dX11_odds_114 : decode cX11_odds 114 = .ok (.iaload, 1) := by decide +kernel
theorem dX11_odds_115 : decode cX11_odds 115 = .ok (.iload_n 2, 1) := by decide +kernel
theorem dX11_odds_116 : decode cX11_odds 116 = .ok (.ishr, 1) := by decide +kernel
theorem dX11_odds_117 : decode cX11_odds 117 = .ok (.iconst 1, 1) := by decide +kernel
theorem dX11_odds_118 : decode cX11_odds 118 = .ok (.iand, 1) := by decide +kernel
theorem dX11_odds_119 : decode cX11_odds 119 = .ok (.iadd, 1) := by decide +kernel
theorem dX11_odds_120 : decode cX11_odds 120 = .ok (.istore 5, 2) := by decide +kernel
theorem dX11_odds_122 : decode cX11_odds 122 = .ok (.iinc 6 1, 3) := by decide +kernel
theorem dX11_odds_125 : decode cX11_odds 125 = .ok (.goto (-62), 3) := by decide +kernel
theorem dX11_odds_128 : decode cX11_odds 128 = .ok (.iload 5, 2) := by decide +kernel
theorem dX11_odds_130 : decode cX11_odds 130 = .ok (.aload_n 0, 1) := by decide +kernel
theorem dX11_odds_131 : decode cX11_odds 131 = .ok (.getfield 60, 3) := by decide +kernel
theorem dX11_odds_134 : decode cX11_odds 134 = .ok (.getfield 119, 3) := by decide +kernel
theorem dX11_odds_137 : decode cX11_odds 137 = .ok (.invokestatic 275, 3) := by decide +kernel
theorem dX11_odds_140 : decode cX11_odds 140 = .ok (.istore 6, 2) := by decide +kernel
theorem dX11_odds_142 : decode cX11_odds 142 = .ok (.iload 4, 2) := by decide +kernel
theorem dX11_odds_144 : decode cX11_odds 144 = .ok (.ifCond .ne 8, 3) := by decide +kernel
theorem dX11_odds_147 : decode cX11_odds 147 = .ok (.iload 5, 2) := by decide +kernel
theorem dX11_odds_149 : decode cX11_odds 149 = .ok (.goto 10, 3) := by decide +kernel
theorem dX11_odds_152 : decode cX11_odds 152 = .ok (.aload_n 0, 1) := by decide +kernel
theorem dX11_odds_153 : decode cX11_odds 153 = .ok (.getfield 60, 3) := by decide +kernel
theorem dX11_odds_156 : decode cX11_odds 156 = .ok (.getfield 119, 3) := by decide +kernel
theorem dX11_odds_159 : decode cX11_odds 159 = .ok (.iload 6, 2) := by decide +kernel
theorem dX11_odds_161 : decode cX11_odds 161 = .ok (.idiv, 1) := by decide +kernel
theorem dX11_odds_162 : decode cX11_odds 162 = .ok (.ireturn, 1) := by decide +kernel
theorem dX11_seed_0 : decode cX11_seed 0 = .ok (.aload_n 0, 1) := by decide +kernel
theorem dX11_seed_1 : decode cX11_seed 1 = .ok (.getfield 60, 3) := by decide +kernel
theorem dX11_seed_4 : decode cX11_seed 4 = .ok (.getfield 278, 3) := by decide +kernel
theorem dX11_seed_7 : decode cX11_seed 7 = .ok (.istore_n 2, 1) := by decide +kernel
theorem dX11_seed_8 : decode cX11_seed 8 = .ok (.aload_n 0, 1) := by decide +kernel
theorem dX11_seed_9 : decode cX11_seed 9 = .ok (.getfield 60, 3) := by decide +kernel
theorem dX11_seed_12 : decode cX11_seed 12 = .ok (.iload_n 1, 1) := by decide +kernel
theorem dX11_seed_13 : decode cX11_seed 13 = .ok (.putfield 278, 3) := by decide +kernel
theorem dX11_seed_16 : decode cX11_seed 16 = .ok (.iload_n 2, 1) := by decide +kernel
theorem dX11_seed_17 : decode cX11_seed 17 = .ok (.ireturn, 1) := by decide +kernel
theorem dX11_voice_0 : decode cX11_voice 0 = .ok (.aload_n 0, 1) := by decide +kernel
theorem dX11_voice_1 : decode cX11_voice 1 = .ok (.iload_n 1, 1) := by decide +kernel
theorem dX11_voice_2 : decode cX11_voice 2 = .ok (.invokevirtual 126, 3) := by decide +kernel
theorem dX11_voice_5 : decode cX11_voice 5 = .ok (.ifCond .ne 12, 3) := by decide +kernel
theorem dX11_voice_8 : decode cX11_voice 8 = .ok (.iload_n 2, 1) := by decide +kernel
