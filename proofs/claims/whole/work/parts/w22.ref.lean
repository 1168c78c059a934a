theorem d_Mo_setWords_0 : decode b_Mo_setWords 0 = .ok (.aload_n 1, 1) := by decide +kernel
theorem d_Mo_setWords_1 : decode b_Mo_setWords 1 = .ok (.aload_n 2, 1) := by decide +kernel
theorem d_Mo_setWords_2 : decode b_Mo_setWords 2 = .ok (.ldc2_w 117, 3) := by decide +kernel
theorem d_Mo_setWords_5 : decode b_Mo_setWords 5 = .ok (.lconst 0, 1) := by decide +kernel
theorem d_Mo_setWords_6 : decode b_Mo_setWords 6 = .ok (.invokestatic 105, 3) := by decide +kernel
theorem d_Mo_setWords_9 : decode b_Mo_setWords 9 = .ok (.invokestatic 113, 3) := by decide +kernel
theorem d_Mo_setWords_12 : decode b_Mo_setWords 12 = .ok (.putfield 119, 3) := by decide +kernel
theorem d_Mo_setWords_15 : decode b_Mo_setWords 15 = .ok (.aload_n 1, 1) := by decide +kernel
theorem d_Mo_setWords_16 : decode b_Mo_setWords 16 = .ok (.aload_n 2, 1) := by decide +kernel
theorem d_Mo_setWords_17 : decode b_Mo_setWords 17 = .ok (.ldc2_w 122, 3) := by decide +kernel
theorem d_Mo_setWords_20 : decode b_Mo_setWords 20 = .ok (.lconst 0, 1) := by decide +kernel
theorem d_Mo_setWords_21 : decode b_Mo_setWords 21 = .ok (.invokestatic 105, 3) := by decide +kernel
theorem d_Mo_setWords_24 : decode b_Mo_setWords 24 = .ok (.invokestatic 113, 3) := by decide +kernel
theorem d_Mo_setWords_27 : decode b_Mo_setWords 27 = .ok (.putfield 124, 3) := by decide +kernel
theorem d_Mo_setWords_30 : decode b_Mo_setWords 30 = .ok (.aload_n 1, 1) := by decide +kernel
theorem d_Mo_setWords_31 : decode b_Mo_setWords 31 = .ok (.aload_n 2, 1) := by decide +kernel
theorem d_Mo_setWords_32 : decode b_Mo_setWords 32 = .ok (.ldc2_w 127, 3) := by decide +kernel
theorem d_Mo_setWords_35 : decode b_Mo_setWords 35 = .ok (.lconst 0, 1) := by decide +kernel
theorem d_Mo_setWords_36 : decode b_Mo_setWords 36 = .ok (.invokestatic 129, 3) := by decide +kernel
theorem d_Mo_setWords_39 : decode b_Mo_setWords 39 = .ok (.putfield 133, 3) := by decide +kernel
theorem d_Mo_setWords_42 : decode b_Mo_setWords 42 = .ok (.aload_n 1, 1) := by decide +kernel
theorem d_Mo_setWords_43 : decode b_Mo_setWords 43 = .ok (.aload_n 1, 1) := by decide +kernel
theorem d_Mo_setWords_44 : decode b_Mo_setWords 44 = .ok (.getfield 133, 3) := by decide +kernel
theorem d_Mo_setWords_47 : decode b_Mo_setWords 47 = .ok (.ifCond .ne 38, 3) := by decide +kernel
theorem d_Mo_setWords_50 : decode b_Mo_setWords 50 = .ok (.aload_n 1, 1) := by decide +kernel
theorem d_Mo_setWords_51 : decode b_Mo_setWords 51 = .ok (.getfield 119, 3) := by decide +kernel
theorem d_Mo_setWords_54 : decode b_Mo_setWords 54 = .ok (.bipush (-2), 2) := by decide +kernel
theorem d_Mo_setWords_56 : decode b_Mo_setWords 56 = .ok (.if_icmp .ne 29, 3) := by decide +kernel
theorem d_Mo_setWords_59 : decode b_Mo_setWords 59 = .ok (.aload_n 2, 1) := by decide +kernel
theorem d_Mo_setWords_60 : decode b_Mo_setWords 60 = .ok (.ldc2_w 137, 3) := by decide +kernel
theorem d_Mo_setWords_63 : decode b_Mo_setWords 63 = .ok (.ldc2_w 139, 3) := by decide +kernel
theorem d_Mo_setWords_66 : decode b_Mo_setWords 66 = .ok (.invokestatic 129, 3) := by decide +kernel
theorem d_Mo_setWords_69 : decode b_Mo_setWords 69 = .ok (.ifCond .ne 16, 3) := by decide +kernel
theorem d_Mo_setWords_72 : decode b_Mo_setWords 72 = .ok (.aload_n 2, 1) := by decide +kernel
theorem d_Mo_setWords_73 : decode b_Mo_setWords 73 = .ok (.ldc2_w 141, 3) := by decide +kernel
theorem d_Mo_setWords_76 : decode b_Mo_setWords 76 = .ok (.ldc2_w 143, 3) := by decide +kernel
theorem d_Mo_setWords_79 : decode b_Mo_setWords 79 = .ok (.invokestatic 129, 3) := by decide +kernel
theorem d_Mo_setWords_82 : decode b_Mo_setWords 82 = .ok (.ifCond .eq 7, 3) := by decide +kernel
theorem d_Mo_setWords_89 : decode b_Mo_setWords 89 = .ok (.iconst 0, 1) := by decide +kernel
theorem d_Mo_setWords_90 : decode b_Mo_setWords 90 = .ok (.putfield 145, 3) := by decide +kernel
theorem d_Mo_setWords_93 : decode b_Mo_setWords 93 = .ok (.return_, 1) := by decide +kernel
theorem d_Mo_setTimes_0 : decode b_Mo_setTimes 0 = .ok (.aload_n 2, 1) := by decide +kernel
theorem d_Mo_setTimes_1 : decode b_Mo_setTimes 1 = .ok (.ldc2_w 148, 3) := by decide +kernel
theorem d_Mo_setTimes_4 : decode b_Mo_setTimes 4 = .ok (.lconst 0, 1) := by decide +kernel
theorem d_Mo_setTimes_5 : decode b_Mo_setTimes 5 = .ok (.invokestatic 105, 3) := by decide +kernel
theorem d_Mo_setTimes_8 : decode b_Mo_setTimes 8 = .ok (.invokestatic 150, 3) := by decide +kernel
theorem d_Mo_setTimes_11 : decode b_Mo_setTimes 11 = .ok (.istore_n 3, 1) := by decide +kernel
theorem d_Mo_setTimes_12 : decode b_Mo_setTimes 12 = .ok (.aload_n 2, 1) := by decide +kernel
theorem d_Mo_setTimes_13 : decode b_Mo_setTimes 13 = .ok (.ldc2_w 154, 3) := by decide +kernel
theorem d_Mo_setTimes_16 : decode b_Mo_setTimes 16 = .ok (.lconst 0, 1) := by decide +kernel
theorem d_Mo_setTimes_17 : decode b_Mo_setTimes 17 = .ok (.invokestatic 105, 3) := by decide +kernel
theorem d_Mo_setTimes_20 : decode b_Mo_setTimes 20 = .ok (.invokestatic 150, 3) := by decide +kernel
theorem d_Mo_setTimes_23 : decode b_Mo_setTimes 23 = .ok (.istore 4, 2) := by decide +kernel
theorem d_Mo_setTimes_25 : decode b_Mo_setTimes 25 = .ok (.aload_n 2, 1) := by decide +kernel
theorem d_Mo_setTimes_26 : decode b_Mo_setTimes 26 = .ok (.ldc2_w 156, 3) := by decide +kernel
theorem d_Mo_setTimes_29 : decode b_Mo_setTimes 29 = .ok (.lconst 0, 1) := by decide +kernel
theorem d_Mo_setTimes_30 : decode b_Mo_setTimes 30 = .ok (.invokestatic 105, 3) := by decide +kernel
theorem d_Mo_setTimes_33 : decode b_Mo_setTimes 33 = .ok (.invokestatic 150, 3) := by decide +kernel
theorem d_Mo_setTimes_36 : decode b_Mo_setTimes 36 = .ok (.istore 5, 2) := by decide +kernel
theorem d_Mo_setTimes_38 : decode b_Mo_setTimes 38 = .ok (.iload_n 3, 1) := by decide +kernel
theorem d_Mo_setTimes_39 : decode b_Mo_setTimes 39 = .ok (.ifCond .lt 21, 3) := by decide +kernel
theorem d_Mo_setTimes_60 : decode b_Mo_setTimes 60 = .ok (.iconst 0, 1) := by decide +kernel
theorem d_Mo_setTimes_61 : decode b_Mo_setTimes 61 = .ok (.istore 6, 2) := by decide +kernel
theorem d_Mo_setTimes_63 : decode b_Mo_setTimes 63 = .ok (.aload_n 1, 1) := by decide +kernel
theorem d_Mo_setTimes_64 : decode b_Mo_setTimes 64 = .ok (.aload_n 1, 1) := by decide +kernel
theorem d_Mo_setTimes_65 : decode b_Mo_setTimes 65 = .ok (.getfield 119, 3) := by decide +kernel
theorem d_Mo_setTimes_68 : decode b_Mo_setTimes 68 = .ok (.ifCond .lt 10, 3) := by decide +kernel
theorem d_Mo_setTimes_78 : decode b_Mo_setTimes 78 = .ok (.aload_n 1, 1) := by decide +kernel
theorem d_Mo_setTimes_79 : decode b_Mo_setTimes 79 = .ok (.getfield 124, 3) := by decide +kernel
theorem d_Mo_setTimes_82 : decode b_Mo_setTimes 82 = .ok (.ifCond .lt 10, 3) := by decide +kernel
theorem d_Mo_setTimes_92 : decode b_Mo_setTimes 92 = .ok (.iload 6, 2) := by decide +kernel
theorem d_Mo_setTimes_94 : decode b_Mo_setTimes 94 = .ok (.putfield 158, 3) := by decide +kernel
theorem d_Mo_setTimes_97 : decode b_Mo_setTimes 97 = .ok (.aload_n 1, 1) := by decide +kernel
theorem d_Mo_setTimes_98 : decode b_Mo_setTimes 98 = .ok (.iload 5, 2) := by decide +kernel
theorem d_Mo_setTimes_100 : decode b_Mo_setTimes 100 = .ok (.ifCond .lt 8, 3) := by decide +kernel
theorem d_Mo_setTimes_108 : decode b_Mo_setTimes 108 = .ok (.iconst 0, 1) := by decide +kernel
theorem d_Mo_setTimes_109 : decode b_Mo_setTimes 109 = .ok (.putfield 161, 3) := by decide +kernel
theorem d_Mo_setTimes_112 : decode b_Mo_setTimes 112 = .ok (.aload_n 1, 1) := by decide +kernel
theorem d_Mo_setTimes_113 : decode b_Mo_setTimes 113 = .ok (.aload_n 0, 1) := by decide +kernel
theorem d_Mo_setTimes_114 : decode b_Mo_setTimes 114 = .ok (.getfield 164, 3) := by decide +kernel
theorem d_Mo_setTimes_117 : decode b_Mo_setTimes 117 = .ok (.putfield 167, 3) := by decide +kernel
theorem d_Mo_setTimes_120 : decode b_Mo_setTimes 120 = .ok (.return_, 1) := by decide +kernel
theorem d_Mo_ask_0 : decode b_Mo_ask 0 = .ok (.aload_n 0, 1) := by decide +kernel
theorem d_Mo_ask_1 : decode b_Mo_ask 1 = .ok (.invokevirtual 213, 3) := by decide +kernel
theorem d_Mo_ask_4 : decode b_Mo_ask 4 = .ok (.astore_n 2, 1) := by decide +kernel
theorem d_Mo_ask_5 : decode b_Mo_ask 5 = .ok (.aload_n 0, 1) := by decide +kernel
theorem d_Mo_ask_6 : decode b_Mo_ask 6 = .ok (.aload_n 2, 1) := by decide +kernel
theorem d_Mo_ask_7 : decode b_Mo_ask 7 = .ok (.ifnull 10, 3) := by decide +kernel
theorem d_Mo_ask_10 : decode b_Mo_ask 10 = .ok (.iload_n 1, 1) := by decide +kernel
theorem d_Mo_ask_11 : decode b_Mo_ask 11 = .ok (.invokestatic 217, 3) := by decide +kernel
theorem d_Mo_ask_14 : decode b_Mo_ask 14 = .ok (.ifCond .ne 7, 3) := by decide +kernel
theorem d_Mo_ask_17 : decode b_Mo_ask 17 = .ok (.iconst 1, 1) := by decide +kernel
theorem d_Mo_ask_18 : decode b_Mo_ask 18 = .ok (.goto 4, 3) := by decide +kernel
theorem d_Mo_ask_22 : decode b_Mo_ask 22 = .ok (.putfield 32, 3) := by decide +kernel
theorem d_Mo_ask_25 : decode b_Mo_ask 25 = .ok (.aload_n 0, 1) := by decide +kernel
theorem d_Mo_ask_26 : decode b_Mo_ask 26 = .ok (.getfield 32, 3) := by decide +kernel
theorem d_Mo_ask_29 : decode b_Mo_ask 29 = .ok (.ifCond .eq 5, 3) := by decide +kernel
theorem d_Mo_ask_32 : decode b_Mo_ask 32 = .ok (.iconst 0, 1) := by decide +kernel
theorem d_Mo_ask_33 : decode b_Mo_ask 33 = .ok (.ireturn, 1) := by decide +kernel
theorem d_Mo_ask_21 : decode b_Mo_ask 21 = .ok (.iconst 0, 1) := by decide +kernel
theorem d_Mo_ask_34 : decode b_Mo_ask 34 = .ok (.aload_n 0, 1) := by decide +kernel
theorem d_Mo_ask_35 : decode b_Mo_ask 35 = .ok (.aload_n 2, 1) := by decide +kernel
theorem d_Mo_ask_36 : decode b_Mo_ask 36 = .ok (.putfield 22, 3) := by decide +kernel
theorem d_Mo_ask_39 : decode b_Mo_ask 39 = .ok (.aload_n 2, 1) := by decide +kernel
theorem d_Mo_ask_40 : decode b_Mo_ask 40 = .ok (.invokestatic 220, 3) := by decide +kernel
theorem d_Mo_ask_43 : decode b_Mo_ask 43 = .ok (.invokestatic 91, 3) := by decide +kernel
theorem d_Mo_ask_46 : decode b_Mo_ask 46 = .ok (.astore_n 3, 1) := by decide +kernel
theorem d_Mo_ask_47 : decode b_Mo_ask 47 = .ok (.aload_n 0, 1) := by decide +kernel
theorem d_Mo_ask_48 : decode b_Mo_ask 48 = .ok (.iload_n 1, 1) := by decide +kernel
theorem d_Mo_ask_49 : decode b_Mo_ask 49 = .ok (.invokevirtual 224, 3) := by decide +kernel
theorem d_Mo_ask_52 : decode b_Mo_ask 52 = .ok (.istore 4, 2) := by decide +kernel
theorem d_Mo_ask_54 : decode b_Mo_ask 54 = .ok (.iload 4, 2) := by decide +kernel
theorem d_Mo_ask_56 : decode b_Mo_ask 56 = .ok (.iconst (-1), 1) := by decide +kernel
theorem d_Mo_ask_57 : decode b_Mo_ask 57 = .ok (.if_icmp .ne 7, 3) := by decide +kernel
theorem d_Mo_ask_60 : decode b_Mo_ask 60 = .ok (.iconst 0, 1) := by decide +kernel
theorem d_Mo_ask_61 : decode b_Mo_ask 61 = .ok (.goto 15, 3) := by decide +kernel
theorem d_Mo_ask_76 : decode b_Mo_ask 76 = .ok (.istore 5, 2) := by decide +kernel
theorem d_Mo_ask_78 : decode b_Mo_ask 78 = .ok (.iload 5, 2) := by decide +kernel
theorem d_Mo_ask_80 : decode b_Mo_ask 80 = .ok (.iconst 1, 1) := by decide +kernel
theorem d_Mo_ask_81 : decode b_Mo_ask 81 = .ok (.if_icmp .eq 9, 3) := by decide +kernel
theorem d_Mo_ask_84 : decode b_Mo_ask 84 = .ok (.iload 5, 2) := by decide +kernel
theorem d_Mo_ask_86 : decode b_Mo_ask 86 = .ok (.iconst 2, 1) := by decide +kernel
theorem d_Mo_ask_87 : decode b_Mo_ask 87 = .ok (.if_icmp .ne 17, 3) := by decide +kernel
theorem d_Mo_ask_104 : decode b_Mo_ask 104 = .ok (.aload_n 3, 1) := by decide +kernel
theorem d_Mo_ask_105 : decode b_Mo_ask 105 = .ok (.ldc2_w 231, 3) := by decide +kernel
theorem d_Mo_ask_108 : decode b_Mo_ask 108 = .ok (.ldc2_w 233, 3) := by decide +kernel
theorem d_Mo_ask_111 : decode b_Mo_ask 111 = .ok (.invokestatic 129, 3) := by decide +kernel
theorem d_Mo_ask_114 : decode b_Mo_ask 114 = .ok (.ifCond .eq 5, 3) := by decide +kernel
theorem d_Mo_ask_119 : decode b_Mo_ask 119 = .ok (.iload 5, 2) := by decide +kernel
theorem d_Mo_ask_121 : decode b_Mo_ask 121 = .ok (.ireturn, 1) := by decide +kernel
theorem d_Mo_again_0 : decode b_Mo_again 0 = .ok (.aload_n 0, 1) := by decide +kernel
theorem d_Mo_again_1 : decode b_Mo_again 1 = .ok (.invokevirtual 213, 3) := by decide +kernel
theorem d_Mo_again_4 : decode b_Mo_again 4 = .ok (.astore_n 2, 1) := by decide +kernel
theorem d_Mo_again_5 : decode b_Mo_again 5 = .ok (.aload_n 0, 1) := by decide +kernel
theorem d_Mo_again_6 : decode b_Mo_again 6 = .ok (.aload_n 2, 1) := by decide +kernel
theorem d_Mo_again_7 : decode b_Mo_again 7 = .ok (.ifnull 10, 3) := by decide +kernel
theorem d_Mo_again_10 : decode b_Mo_again 10 = .ok (.iload_n 1, 1) := by decide +kernel
theorem d_Mo_again_11 : decode b_Mo_again 11 = .ok (.invokestatic 217, 3) := by decide +kernel
theorem d_Mo_again_14 : decode b_Mo_again 14 = .ok (.ifCond .ne 7, 3) := by decide +kernel
theorem d_Mo_again_17 : decode b_Mo_again 17 = .ok (.iconst 1, 1) := by decide +kernel
theorem d_Mo_again_18 : decode b_Mo_again 18 = .ok (.goto 4, 3) := by decide +kernel
theorem d_Mo_again_22 : decode b_Mo_again 22 = .ok (.putfield 32, 3) := by decide +kernel
theorem d_Mo_again_25 : decode b_Mo_again 25 = .ok (.aload_n 0, 1) := by decide +kernel
theorem d_Mo_again_26 : decode b_Mo_again 26 = .ok (.getfield 32, 3) := by decide +kernel
theorem d_Mo_again_29 : decode b_Mo_again 29 = .ok (.ifCond .eq 5, 3) := by decide +kernel
theorem d_Mo_again_32 : decode b_Mo_again 32 = .ok (.iconst 0, 1) := by decide +kernel
theorem d_Mo_again_33 : decode b_Mo_again 33 = .ok (.ireturn, 1) := by decide +kernel
theorem d_Mo_again_21 : decode b_Mo_again 21 = .ok (.iconst 0, 1) := by decide +kernel
theorem d_Mo_again_34 : decode b_Mo_again 34 = .ok (.aload_n 0, 1) := by decide +kernel
theorem d_Mo_again_35 : decode b_Mo_again 35 = .ok (.iload_n 1, 1) := by decide +kernel
theorem d_Mo_again_36 : decode b_Mo_again 36 = .ok (.invokevirtual 224, 3) := by decide +kernel
theorem d_Mo_again_39 : decode b_Mo_again 39 = .ok (.istore_n 3, 1) := by decide +kernel
theorem d_Mo_again_40 : decode b_Mo_again 40 = .ok (.iload_n 3, 1) := by decide +kernel
theorem d_Mo_again_41 : decode b_Mo_again 41 = .ok (.iconst (-1), 1) := by decide +kernel
theorem d_Mo_again_42 : decode b_Mo_again 42 = .ok (.if_icmp .ne 5, 3) := by decide +kernel
theorem d_Mo_again_45 : decode b_Mo_again 45 = .ok (.iconst 0, 1) := by decide +kernel
theorem d_Mo_again_46 : decode b_Mo_again 46 = .ok (.ireturn, 1) := by decide +kernel
theorem d_Mo_keep_0 : decode b_Mo_keep 0 = .ok (.aload_n 0, 1) := by decide +kernel
theorem d_Mo_keep_1 : decode b_Mo_keep 1 = .ok (.invokevirtual 213, 3) := by decide +kernel
theorem d_Mo_keep_4 : decode b_Mo_keep 4 = .ok (.astore_n 2, 1) := by decide +kernel
theorem d_Mo_keep_5 : decode b_Mo_keep 5 = .ok (.aload_n 0, 1) := by decide +kernel
theorem d_Mo_keep_6 : decode b_Mo_keep 6 = .ok (.aload_n 2, 1) := by decide +kernel
theorem d_Mo_keep_7 : decode b_Mo_keep 7 = .ok (.ifnull 10, 3) := by decide +kernel
theorem d_Mo_keep_10 : decode b_Mo_keep 10 = .ok (.iload_n 1, 1) := by decide +kernel
theorem d_Mo_keep_11 : decode b_Mo_keep 11 = .ok (.invokestatic 217, 3) := by decide +kernel
theorem d_Mo_keep_14 : decode b_Mo_keep 14 = .ok (.ifCond .ne 7, 3) := by decide +kernel
theorem d_Mo_keep_17 : decode b_Mo_keep 17 = .ok (.iconst 1, 1) := by decide +kernel
theorem d_Mo_keep_18 : decode b_Mo_keep 18 = .ok (.goto 4, 3) := by decide +kernel
theorem d_Mo_keep_22 : decode b_Mo_keep 22 = .ok (.putfield 32, 3) := by decide +kernel
theorem d_Mo_keep_25 : decode b_Mo_keep 25 = .ok (.aload_n 0, 1) := by decide +kernel
theorem d_Mo_keep_26 : decode b_Mo_keep 26 = .ok (.getfield 32, 3) := by decide +kernel
theorem d_Mo_keep_29 : decode b_Mo_keep 29 = .ok (.ifCond .eq 5, 3) := by decide +kernel
theorem d_Mo_keep_32 : decode b_Mo_keep 32 = .ok (.iconst 0, 1) := by decide +kernel
theorem d_Mo_keep_33 : decode b_Mo_keep 33 = .ok (.ireturn, 1) := by decide +kernel
theorem d_Mo_keep_21 : decode b_Mo_keep 21 = .ok (.iconst 0, 1) := by decide +kernel
theorem d_Mo_keep_34 : decode b_Mo_keep 34 = .ok (.new 26, 3) := by decide +kernel
theorem d_Mo_keep_37 : decode b_Mo_keep 37 = .ok (.dup, 1) := by decide +kernel
theorem d_Mo_keep_38 : decode b_Mo_keep 38 = .ok (.invokespecial 235, 3) := by decide +kernel
theorem d_Mo_keep_41 : decode b_Mo_keep 41 = .ok (.astore_n 3, 1) := by decide +kernel
theorem d_Mo_keep_42 : decode b_Mo_keep 42 = .ok (.aload_n 3, 1) := by decide +kernel
theorem d_Mo_keep_43 : decode b_Mo_keep 43 = .ok (.iload_n 1, 1) := by decide +kernel
theorem d_Mo_keep_44 : decode b_Mo_keep 44 = .ok (.putfield 188, 3) := by decide +kernel
theorem d_Mo_keep_47 : decode b_Mo_keep 47 = .ok (.aload_n 2, 1) := by decide +kernel
theorem d_Mo_keep_48 : decode b_Mo_keep 48 = .ok (.invokestatic 220, 3) := by decide +kernel
theorem d_Mo_keep_51 : decode b_Mo_keep 51 = .ok (.invokestatic 91, 3) := by decide +kernel
theorem d_Mo_keep_54 : decode b_Mo_keep 54 = .ok (.astore 4, 2) := by decide +kernel
theorem d_Mo_keep_56 : decode b_Mo_keep 56 = .ok (.aload_n 2, 1) := by decide +kernel
theorem d_Mo_keep_57 : decode b_Mo_keep 57 = .ok (.ldc2_w 236, 3) := by decide +kernel
theorem d_Mo_keep_60 : decode b_Mo_keep 60 = .ok (.lconst 0, 1) := by decide +kernel
theorem d_Mo_keep_61 : decode b_Mo_keep 61 = .ok (.invokestatic 105, 3) := by decide +kernel
theorem d_Mo_keep_64 : decode b_Mo_keep 64 = .ok (.invokestatic 91, 3) := by decide +kernel
theorem d_Mo_keep_67 : decode b_Mo_keep 67 = .ok (.astore 5, 2) := by decide +kernel
theorem d_Mo_keep_69 : decode b_Mo_keep 69 = .ok (.aload_n 3, 1) := by decide +kernel
theorem d_Mo_keep_70 : decode b_Mo_keep 70 = .ok (.aload 5, 2) := by decide +kernel
theorem d_Mo_keep_72 : decode b_Mo_keep 72 = .ok (.ifnonnull 10, 3) := by decide +kernel
theorem d_Mo_keep_75 : decode b_Mo_keep 75 = .ok (.iconst 0, 1) := by decide +kernel
theorem d_Mo_keep_76 : decode b_Mo_keep 76 = .ok (.anewarray 78, 3) := by decide +kernel
theorem d_Mo_keep_79 : decode b_Mo_keep 79 = .ok (.goto 11, 3) := by decide +kernel
theorem d_Mo_keep_90 : decode b_Mo_keep 90 = .ok (.putfield 191, 3) := by decide +kernel
theorem d_Mo_keep_93 : decode b_Mo_keep 93 = .ok (.aload_n 3, 1) := by decide +kernel
theorem d_Mo_keep_94 : decode b_Mo_keep 94 = .ok (.aload_n 3, 1) := by decide +kernel
theorem d_Mo_keep_95 : decode b_Mo_keep 95 = .ok (.getfield 191, 3) := by decide +kernel
theorem d_Mo_keep_98 : decode b_Mo_keep 98 = .ok (.arraylength, 1) := by decide +kernel
theorem d_Mo_keep_99 : decode b_Mo_keep 99 = .ok (.anewarray 78, 3) := by decide +kernel
theorem d_Mo_keep_102 : decode b_Mo_keep 102 = .ok (.putfield 195, 3) := by decide +kernel
theorem d_Mo_keep_105 : decode b_Mo_keep 105 = .ok (.iconst 0, 1) := by decide +kernel
theorem d_Mo_keep_106 : decode b_Mo_keep 106 = .ok (.istore 6, 2) := by decide +kernel
theorem d_Mo_keep_108 : decode b_Mo_keep 108 = .ok (.iload 6, 2) := by decide +kernel
theorem d_Mo_keep_110 : decode b_Mo_keep 110 = .ok (.aload_n 3, 1) := by decide +kernel
theorem d_Mo_keep_111 : decode b_Mo_keep 111 = .ok (.getfield 191, 3) := by decide +kernel
theorem d_Mo_keep_114 : decode b_Mo_keep 114 = .ok (.arraylength, 1) := by decide +kernel
theorem d_Mo_keep_115 : decode b_Mo_keep 115 = .ok (.if_icmp .ge 30, 3) := by decide +kernel
theorem d_Mo_keep_145 : decode b_Mo_keep 145 = .ok (.aload_n 3, 1) := by decide +kernel
theorem d_Mo_keep_146 : decode b_Mo_keep 146 = .ok (.aload_n 2, 1) := by decide +kernel
theorem d_Mo_keep_147 : decode b_Mo_keep 147 = .ok (.invokestatic 238, 3) := by decide +kernel
theorem d_Mo_keep_150 : decode b_Mo_keep 150 = .ok (.putfield 242, 3) := by decide +kernel
theorem d_Mo_keep_153 : decode b_Mo_keep 153 = .ok (.aload_n 0, 1) := by decide +kernel
theorem d_Mo_keep_154 : decode b_Mo_keep 154 = .ok (.aload_n 3, 1) := by decide +kernel
theorem d_Mo_keep_155 : decode b_Mo_keep 155 = .ok (.aload 4, 2) := by decide +kernel
theorem d_Mo_keep_157 : decode b_Mo_keep 157 = .ok (.invokevirtual 245, 3) := by decide +kernel
theorem d_Mo_keep_160 : decode b_Mo_keep 160 = .ok (.aload_n 0, 1) := by decide +kernel
theorem d_Mo_keep_161 : decode b_Mo_keep 161 = .ok (.aload_n 3, 1) := by decide +kernel
theorem d_Mo_keep_162 : decode b_Mo_keep 162 = .ok (.aload_n 2, 1) := by decide +kernel
theorem d_Mo_keep_163 : decode b_Mo_keep 163 = .ok (.invokevirtual 249, 3) := by decide +kernel
theorem d_Mo_keep_166 : decode b_Mo_keep 166 = .ok (.aload_n 0, 1) := by decide +kernel
theorem d_Mo_keep_167 : decode b_Mo_keep 167 = .ok (.aload_n 3, 1) := by decide +kernel
theorem d_Mo_keep_168 : decode b_Mo_keep 168 = .ok (.invokevirtual 253, 3) := by decide +kernel
theorem d_Mo_keep_171 : decode b_Mo_keep 171 = .ok (.istore 6, 2) := by decide +kernel
theorem d_Mo_keep_173 : decode b_Mo_keep 173 = .ok (.iload 6, 2) := by decide +kernel
theorem d_Mo_keep_175 : decode b_Mo_keep 175 = .ok (.iconst (-1), 1) := by decide +kernel
theorem d_Mo_keep_176 : decode b_Mo_keep 176 = .ok (.if_icmp .eq 9, 3) := by decide +kernel
theorem d_Mo_keep_185 : decode b_Mo_keep 185 = .ok (.aload 4, 2) := by decide +kernel
theorem d_Mo_keep_187 : decode b_Mo_keep 187 = .ok (.ldc2_w 259, 3) := by decide +kernel
theorem d_Mo_keep_190 : decode b_Mo_keep 190 = .ok (.lconst 0, 1) := by decide +kernel
theorem d_Mo_keep_191 : decode b_Mo_keep 191 = .ok (.invokestatic 129, 3) := by decide +kernel
theorem d_Mo_keep_194 : decode b_Mo_keep 194 = .ok (.ifCond .ne 63, 3) := by decide +kernel
theorem d_Mo_keep_197 : decode b_Mo_keep 197 = .ok (.aload 4, 2) := by decide +kernel
theorem d_Mo_keep_199 : decode b_Mo_keep 199 = .ok (.ldc2_w 261, 3) := by decide +kernel
theorem d_Mo_keep_202 : decode b_Mo_keep 202 = .ok (.lconst 0, 1) := by decide +kernel
theorem d_Mo_keep_203 : decode b_Mo_keep 203 = .ok (.invokestatic 129, 3) := by decide +kernel
theorem d_Mo_keep_206 : decode b_Mo_keep 206 = .ok (.ifCond .ne 51, 3) := by decide +kernel
theorem d_Mo_keep_209 : decode b_Mo_keep 209 = .ok (.aload_n 3, 1) := by decide +kernel
theorem d_Mo_keep_210 : decode b_Mo_keep 210 = .ok (.getfield 191, 3) := by decide +kernel
theorem d_Mo_keep_213 : decode b_Mo_keep 213 = .ok (.invokestatic 263, 3) := by decide +kernel
theorem d_Mo_keep_216 : decode b_Mo_keep 216 = .ok (.ifCond .ne 41, 3) := by decide +kernel
theorem d_Mo_keep_219 : decode b_Mo_keep 219 = .ok (.aload_n 0, 1) := by decide +kernel
theorem d_Mo_keep_220 : decode b_Mo_keep 220 = .ok (.getfield 22, 3) := by decide +kernel
theorem d_Mo_keep_223 : decode b_Mo_keep 223 = .ok (.invokestatic 220, 3) := by decide +kernel
theorem d_Mo_keep_226 : decode b_Mo_keep 226 = .ok (.invokestatic 91, 3) := by decide +kernel
theorem d_Mo_keep_229 : decode b_Mo_keep 229 = .ok (.ldc2_w 259, 3) := by decide +kernel
theorem d_Mo_keep_232 : decode b_Mo_keep 232 = .ok (.lconst 0, 1) := by decide +kernel
theorem d_Mo_keep_233 : decode b_Mo_keep 233 = .ok (.invokestatic 129, 3) := by decide +kernel
theorem d_Mo_keep_236 : decode b_Mo_keep 236 = .ok (.ifCond .ne 21, 3) := by decide +kernel
theorem d_Mo_keep_239 : decode b_Mo_keep 239 = .ok (.aload_n 3, 1) := by decide +kernel
theorem d_Mo_keep_240 : decode b_Mo_keep 240 = .ok (.getfield 158, 3) := by decide +kernel
theorem d_Mo_keep_243 : decode b_Mo_keep 243 = .ok (.ifCond .gt 10, 3) := by decide +kernel
theorem d_Mo_keep_246 : decode b_Mo_keep 246 = .ok (.aload_n 3, 1) := by decide +kernel
theorem d_Mo_keep_247 : decode b_Mo_keep 247 = .ok (.getfield 242, 3) := by decide +kernel
theorem d_Mo_keep_250 : decode b_Mo_keep 250 = .ok (.ifnull 7, 3) := by decide +kernel
theorem d_Mo_keep_257 : decode b_Mo_keep 257 = .ok (.iconst 0, 1) := by decide +kernel
theorem d_Mo_keep_258 : decode b_Mo_keep 258 = .ok (.istore 7, 2) := by decide +kernel
theorem d_Mo_keep_260 : decode b_Mo_keep 260 = .ok (.iload 7, 2) := by decide +kernel
theorem d_Mo_keep_262 : decode b_Mo_keep 262 = .ok (.ifCond .ne 5, 3) := by decide +kernel
theorem d_Mo_keep_265 : decode b_Mo_keep 265 = .ok (.iconst 0, 1) := by decide +kernel
theorem d_Mo_keep_266 : decode b_Mo_keep 266 = .ok (.ireturn, 1) := by decide +kernel
set_option maxRecDepth 20000 in
theorem w_923 : Cond.constantLong "VaryStoreModel" 117 8299409953712596837 ∈ TB := tb_in 923 (by decide +kernel) (by decide +kernel)
set_option maxRecDepth 20000 in
theorem w_877 : Cond.fieldLink "VaryStoreModel" 119 "VaryStoreModel$Thing" "sMaxAge" "I"  ∈ TB := tb_in 877 (by decide +kernel) (by decide +kernel)
set_option maxRecDepth 20000 in
theorem w_847 : Cond.constantLong "VaryStoreModel" 122 30787941246789477 ∈ TB := tb_in 847 (by decide +kernel) (by decide +kernel)
set_option maxRecDepth 20000 in
theorem w_879 : Cond.fieldLink "VaryStoreModel" 124 "VaryStoreModel$Thing" "maxAge" "I"  ∈ TB := tb_in 879 (by decide +kernel) (by decide +kernel)
set_option maxRecDepth 20000 in
theorem w_834 : Cond.constantLong "VaryStoreModel" 127 7957628971445872741 ∈ TB := tb_in 834 (by decide +kernel) (by decide +kernel)
set_option maxRecDepth 20000 in
theorem w_837 : Cond.code ⟨"VaryStoreModel", "has", "([IJJ)Z"⟩ prog_8_method_23_code 5 (some .boolean) ∈ TB := tb_in 837 (by decide +kernel) (by decide +kernel)
set_option maxRecDepth 20000 in
theorem w_835 : Cond.methodLink "VaryStoreModel" 129 ⟨"VaryStoreModel", "has", "([IJJ)Z"⟩ ∈ TB := tb_in 835 (by decide +kernel) (by decide +kernel)
set_option maxRecDepth 20000 in
theorem w_836 : Cond.static ⟨"VaryStoreModel", "has", "([IJJ)Z"⟩ ∈ TB := tb_in 836 (by decide +kernel) (by decide +kernel)
set_option maxRecDepth 20000 in
theorem w_883 : Cond.fieldLink "VaryStoreModel" 133 "VaryStoreModel$Thing" "noCache" "Z"  ∈ TB := tb_in 883 (by decide +kernel) (by decide +kernel)
set_option maxRecDepth 20000 in
theorem w_924 : Cond.constantLong "VaryStoreModel" 137 7887337265225164150 ∈ TB := tb_in 924 (by decide +kernel) (by decide +kernel)
set_option maxRecDepth 20000 in
theorem w_925 : Cond.constantLong "VaryStoreModel" 139 27422272652407909 ∈ TB := tb_in 925 (by decide +kernel) (by decide +kernel)
set_option maxRecDepth 20000 in
theorem w_926 : Cond.constantLong "VaryStoreModel" 141 8102661242812723813 ∈ TB := tb_in 926 (by decide +kernel) (by decide +kernel)
set_option maxRecDepth 20000 in
theorem w_927 : Cond.constantLong "VaryStoreModel" 143 8530218369127904357 ∈ TB := tb_in 927 (by decide +kernel) (by decide +kernel)
set_option maxRecDepth 20000 in
theorem w_884 : Cond.fieldLink "VaryStoreModel" 145 "VaryStoreModel$Thing" "mustAsk" "Z"  ∈ TB := tb_in 884 (by decide +kernel) (by decide +kernel)
set_option maxRecDepth 20000 in
theorem w_932 : Cond.constantLong "VaryStoreModel" 148 28561396848551283 ∈ TB := tb_in 932 (by decide +kernel) (by decide +kernel)
set_option maxRecDepth 20000 in
theorem w_935 : Cond.code ⟨"VaryStoreModel", "numberIn", "(LVaryStoreModel$Text;[I)I"⟩ prog_8_method_19_code 3 (some .int) ∈ TB := tb_in 935 (by decide +kernel) (by decide +kernel)
set_option maxRecDepth 20000 in
theorem w_933 : Cond.methodLink "VaryStoreModel" 150 ⟨"VaryStoreModel", "numberIn", "(LVaryStoreModel$Text;[I)I"⟩ ∈ TB := tb_in 933 (by decide +kernel) (by decide +kernel)
set_option maxRecDepth 20000 in
theorem w_934 : Cond.static ⟨"VaryStoreModel", "numberIn", "(LVaryStoreModel$Text;[I)I"⟩ ∈ TB := tb_in 934 (by decide +kernel) (by decide +kernel)
set_option maxRecDepth 20000 in
theorem w_936 : Cond.constantLong "VaryStoreModel" 154 1684108389 ∈ TB := tb_in 936 (by decide +kernel) (by decide +kernel)
set_option maxRecDepth 20000 in
theorem w_937 : Cond.constantLong "VaryStoreModel" 156 6383461 ∈ TB := tb_in 937 (by decide +kernel) (by decide +kernel)
set_option maxRecDepth 20000 in
theorem w_880 : Cond.fieldLink "VaryStoreModel" 158 "VaryStoreModel$Thing" "life" "I"  ∈ TB := tb_in 880 (by decide +kernel) (by decide +kernel)
set_option maxRecDepth 20000 in
theorem w_881 : Cond.fieldLink "VaryStoreModel" 161 "VaryStoreModel$Thing" "age" "I"  ∈ TB := tb_in 881 (by decide +kernel) (by decide +kernel)
set_option maxRecDepth 20000 in
theorem w_738 : Cond.fieldLink "VaryStoreModel" 164 "VaryStoreModel" "time" "I"  ∈ TB := tb_in 738 (by decide +kernel) (by decide +kernel)
set_option maxRecDepth 20000 in
theorem w_882 : Cond.fieldLink "VaryStoreModel" 167 "VaryStoreModel$Thing" "since" "I"  ∈ TB := tb_in 882 (by decide +kernel) (by decide +kernel)
set_option maxRecDepth 20000 in
theorem w_779 : Cond.code ⟨"VaryStoreModel", "read", "()LVaryStoreModel$Text;"⟩ prog_8_method_8_code 6 (some (.object "VaryStoreModel$Text")) ∈ TB := tb_in 779 (by decide +kernel) (by decide +kernel)
set_option maxRecDepth 20000 in
theorem w_776 : Cond.methodLink "VaryStoreModel" 213 ⟨"VaryStoreModel", "read", "()LVaryStoreModel$Text;"⟩ ∈ TB := tb_in 776 (by decide +kernel) (by decide +kernel)
set_option maxRecDepth 20000 in
theorem w_778 : Cond.instanceMethod ⟨"VaryStoreModel", "read", "()LVaryStoreModel$Text;"⟩ ∈ TB := tb_in 778 (by decide +kernel) (by decide +kernel)
set_option maxRecDepth 20000 in
theorem w_17 : Cond.selects "VaryStoreModel" ⟨"VaryStoreModel", "read", "()LVaryStoreModel$Text;"⟩ ⟨"VaryStoreModel", "read", "()LVaryStoreModel$Text;"⟩ ∈ TB := tb_in 17 (by decide +kernel) (by decide +kernel)
set_option maxRecDepth 20000 in
theorem w_791 : Cond.code ⟨"VaryStoreModel", "isPath", "(I)Z"⟩ prog_8_method_33_code 1 (some .boolean) ∈ TB := tb_in 791 (by decide +kernel) (by decide +kernel)
set_option maxRecDepth 20000 in
theorem w_789 : Cond.methodLink "VaryStoreModel" 217 ⟨"VaryStoreModel", "isPath", "(I)Z"⟩ ∈ TB := tb_in 789 (by decide +kernel) (by decide +kernel)
set_option maxRecDepth 20000 in
theorem w_790 : Cond.static ⟨"VaryStoreModel", "isPath", "(I)Z"⟩ ∈ TB := tb_in 790 (by decide +kernel) (by decide +kernel)
set_option maxRecDepth 20000 in
theorem w_794 : Cond.code ⟨"VaryStoreModel", "cacheControl", "()[I"⟩ prog_8_method_22_code 0 (some (.array .int)) ∈ TB := tb_in 794 (by decide +kernel) (by decide +kernel)
set_option maxRecDepth 20000 in
theorem w_792 : Cond.methodLink "VaryStoreModel" 220 ⟨"VaryStoreModel", "cacheControl", "()[I"⟩ ∈ TB := tb_in 792 (by decide +kernel) (by decide +kernel)
set_option maxRecDepth 20000 in
theorem w_793 : Cond.static ⟨"VaryStoreModel", "cacheControl", "()[I"⟩ ∈ TB := tb_in 793 (by decide +kernel) (by decide +kernel)
set_option maxRecDepth 20000 in
theorem w_815 : Cond.code ⟨"VaryStoreModel", "theOne", "(I)I"⟩ prog_8_method_32_code 7 (some .int) ∈ TB := tb_in 815 (by decide +kernel) (by decide +kernel)
set_option maxRecDepth 20000 in
theorem w_812 : Cond.methodLink "VaryStoreModel" 224 ⟨"VaryStoreModel", "theOne", "(I)I"⟩ ∈ TB := tb_in 812 (by decide +kernel) (by decide +kernel)
set_option maxRecDepth 20000 in
theorem w_814 : Cond.instanceMethod ⟨"VaryStoreModel", "theOne", "(I)I"⟩ ∈ TB := tb_in 814 (by decide +kernel) (by decide +kernel)
set_option maxRecDepth 20000 in
theorem w_18 : Cond.selects "VaryStoreModel" ⟨"VaryStoreModel", "theOne", "(I)I"⟩ ⟨"VaryStoreModel", "theOne", "(I)I"⟩ ∈ TB := tb_in 18 (by decide +kernel) (by decide +kernel)
set_option maxRecDepth 20000 in
theorem w_864 : Cond.constantLong "VaryStoreModel" 231 8029474453356897837 ∈ TB := tb_in 864 (by decide +kernel) (by decide +kernel)
set_option maxRecDepth 20000 in
theorem w_865 : Cond.constantLong "VaryStoreModel" 233 109269930763620 ∈ TB := tb_in 865 (by decide +kernel) (by decide +kernel)
set_option maxRecDepth 20000 in
theorem w_870 : Cond.instantiable "VaryStoreModel$Thing" 12 ∈ TB := tb_in 870 (by decide +kernel) (by decide +kernel)
set_option maxRecDepth 20000 in
theorem w_48 : Cond.initialized "VaryStoreModel$Thing" ∈ TB := tb_in 48 (by decide +kernel) (by decide +kernel)
set_option maxRecDepth 20000 in
theorem w_873 : Cond.code ⟨"VaryStoreModel$Thing", "<init>", "()V"⟩ prog_10_method_1_code 1 none ∈ TB := tb_in 873 (by decide +kernel) (by decide +kernel)
set_option maxRecDepth 20000 in
theorem w_871 : Cond.methodLinkNest "VaryStoreModel" 235 ⟨"VaryStoreModel$Thing", "<init>", "()V"⟩ "VaryStoreModel" ∈ NB := nb_in 871 (by decide +kernel) (by decide +kernel)
set_option maxRecDepth 20000 in
theorem w_872 : Cond.instanceMethod ⟨"VaryStoreModel$Thing", "<init>", "()V"⟩ ∈ TB := tb_in 872 (by decide +kernel) (by decide +kernel)
set_option maxRecDepth 20000 in
theorem w_875 : Cond.fieldLink "VaryStoreModel" 188 "VaryStoreModel$Thing" "path" "I"  ∈ TB := tb_in 875 (by decide +kernel) (by decide +kernel)
set_option maxRecDepth 20000 in
theorem w_914 : Cond.constantLong "VaryStoreModel" 236 1986097785 ∈ TB := tb_in 914 (by decide +kernel) (by decide +kernel)
set_option maxRecDepth 20000 in
theorem w_823 : Cond.arrayOver (.array .int) ∈ NB := nb_in 823 (by decide +kernel) (by decide +kernel)
set_option maxRecDepth 20000 in
theorem w_822 : Cond.classLink "VaryStoreModel" 78 "[I" ∈ TB := tb_in 822 (by decide +kernel) (by decide +kernel)
set_option maxRecDepth 20000 in
theorem w_886 : Cond.fieldLink "VaryStoreModel" 191 "VaryStoreModel$Thing" "vary" "[[I"  ∈ TB := tb_in 886 (by decide +kernel) (by decide +kernel)
set_option maxRecDepth 20000 in
theorem w_887 : Cond.fieldLink "VaryStoreModel" 195 "VaryStoreModel$Thing" "values" "[[I"  ∈ TB := tb_in 887 (by decide +kernel) (by decide +kernel)
set_option maxRecDepth 20000 in
theorem w_917 : Cond.code ⟨"VaryStoreModel", "etagOf", "(LVaryStoreModel$Text;)[I"⟩ prog_8_method_21_code 2 (some (.array .int)) ∈ TB := tb_in 917 (by decide +kernel) (by decide +kernel)
set_option maxRecDepth 20000 in
theorem w_915 : Cond.methodLink "VaryStoreModel" 238 ⟨"VaryStoreModel", "etagOf", "(LVaryStoreModel$Text;)[I"⟩ ∈ TB := tb_in 915 (by decide +kernel) (by decide +kernel)
set_option maxRecDepth 20000 in
theorem w_916 : Cond.static ⟨"VaryStoreModel", "etagOf", "(LVaryStoreModel$Text;)[I"⟩ ∈ TB := tb_in 916 (by decide +kernel) (by decide +kernel)
set_option maxRecDepth 20000 in
theorem w_885 : Cond.fieldLink "VaryStoreModel" 242 "VaryStoreModel$Thing" "etag" "[I"  ∈ TB := tb_in 885 (by decide +kernel) (by decide +kernel)
set_option maxRecDepth 20000 in
theorem w_922 : Cond.code ⟨"VaryStoreModel", "setWords", "(LVaryStoreModel$Thing;[I)V"⟩ prog_8_method_24_code 3 none ∈ TB := tb_in 922 (by decide +kernel) (by decide +kernel)
set_option maxRecDepth 20000 in
theorem w_919 : Cond.methodLink "VaryStoreModel" 245 ⟨"VaryStoreModel", "setWords", "(LVaryStoreModel$Thing;[I)V"⟩ ∈ TB := tb_in 919 (by decide +kernel) (by decide +kernel)
set_option maxRecDepth 20000 in
theorem w_921 : Cond.instanceMethod ⟨"VaryStoreModel", "setWords", "(LVaryStoreModel$Thing;[I)V"⟩ ∈ TB := tb_in 921 (by decide +kernel) (by decide +kernel)
set_option maxRecDepth 20000 in
theorem w_23 : Cond.selects "VaryStoreModel" ⟨"VaryStoreModel", "setWords", "(LVaryStoreModel$Thing;[I)V"⟩ ⟨"VaryStoreModel", "setWords", "(LVaryStoreModel$Thing;[I)V"⟩ ∈ TB := tb_in 23 (by decide +kernel) (by decide +kernel)
set_option maxRecDepth 20000 in
theorem w_931 : Cond.code ⟨"VaryStoreModel", "setTimes", "(LVaryStoreModel$Thing;LVaryStoreModel$Text;)V"⟩ prog_8_method_25_code 7 none ∈ TB := tb_in 931 (by decide +kernel) (by decide +kernel)
set_option maxRecDepth 20000 in
theorem w_928 : Cond.methodLink "VaryStoreModel" 249 ⟨"VaryStoreModel", "setTimes", "(LVaryStoreModel$Thing;LVaryStoreModel$Text;)V"⟩ ∈ TB := tb_in 928 (by decide +kernel) (by decide +kernel)
set_option maxRecDepth 20000 in
theorem w_930 : Cond.instanceMethod ⟨"VaryStoreModel", "setTimes", "(LVaryStoreModel$Thing;LVaryStoreModel$Text;)V"⟩ ∈ TB := tb_in 930 (by decide +kernel) (by decide +kernel)
set_option maxRecDepth 20000 in
theorem w_24 : Cond.selects "VaryStoreModel" ⟨"VaryStoreModel", "setTimes", "(LVaryStoreModel$Thing;LVaryStoreModel$Text;)V"⟩ ⟨"VaryStoreModel", "setTimes", "(LVaryStoreModel$Thing;LVaryStoreModel$Text;)V"⟩ ∈ TB := tb_in 24 (by decide +kernel) (by decide +kernel)
set_option maxRecDepth 20000 in
theorem w_941 : Cond.code ⟨"VaryStoreModel", "placeOf", "(LVaryStoreModel$Thing;)I"⟩ prog_8_method_31_code 6 (some .int) ∈ TB := tb_in 941 (by decide +kernel) (by decide +kernel)
set_option maxRecDepth 20000 in
theorem w_938 : Cond.methodLink "VaryStoreModel" 253 ⟨"VaryStoreModel", "placeOf", "(LVaryStoreModel$Thing;)I"⟩ ∈ TB := tb_in 938 (by decide +kernel) (by decide +kernel)
set_option maxRecDepth 20000 in
theorem w_940 : Cond.instanceMethod ⟨"VaryStoreModel", "placeOf", "(LVaryStoreModel$Thing;)I"⟩ ∈ TB := tb_in 940 (by decide +kernel) (by decide +kernel)
set_option maxRecDepth 20000 in
theorem w_25 : Cond.selects "VaryStoreModel" ⟨"VaryStoreModel", "placeOf", "(LVaryStoreModel$Thing;)I"⟩ ⟨"VaryStoreModel", "placeOf", "(LVaryStoreModel$Thing;)I"⟩ ∈ TB := tb_in 25 (by decide +kernel) (by decide +kernel)
set_option maxRecDepth 20000 in
theorem w_946 : Cond.constantLong "VaryStoreModel" 259 7957629040484905573 ∈ TB := tb_in 946 (by decide +kernel) (by decide +kernel)
set_option maxRecDepth 20000 in
theorem w_947 : Cond.constantLong "VaryStoreModel" 261 31650994674824293 ∈ TB := tb_in 947 (by decide +kernel) (by decide +kernel)
set_option maxRecDepth 20000 in
theorem w_950 : Cond.code ⟨"VaryStoreModel", "hasStar", "([[I)Z"⟩ prog_8_method_36_code 2 (some .boolean) ∈ TB := tb_in 950 (by decide +kernel) (by decide +kernel)
set_option maxRecDepth 20000 in
theorem w_948 : Cond.methodLink "VaryStoreModel" 263 ⟨"VaryStoreModel", "hasStar", "([[I)Z"⟩ ∈ TB := tb_in 948 (by decide +kernel) (by decide +kernel)
set_option maxRecDepth 20000 in
theorem w_949 : Cond.static ⟨"VaryStoreModel", "hasStar", "([[I)Z"⟩ ∈ TB := tb_in 949 (by decide +kernel) (by decide +kernel)
set_option maxRecDepth 100000 in
theorem fa_Mo_119 : FA "VaryStoreModel" 119 8 1 R_Mg F_Mg 12 t_Mg := ⟨rfl, uw_Mg, by decide, to_Mg, n_Mg, Or.inl w_877⟩
set_option maxRecDepth 100000 in
theorem fa_Mo_124 : FA "VaryStoreModel" 124 8 2 R_Mg F_Mg 12 t_Mg := ⟨rfl, uw_Mg, by decide, to_Mg, n_Mg, Or.inl w_879⟩
set_option maxRecDepth 100000 in
theorem fa_Mo_133 : FA "VaryStoreModel" 133 8 6 R_Mg F_Mg 12 t_Mg := ⟨rfl, uw_Mg, by decide, to_Mg, n_Mg, Or.inl w_883⟩
set_option maxRecDepth 100000 in
theorem fa_Mo_145 : FA "VaryStoreModel" 145 8 7 R_Mg F_Mg 12 t_Mg := ⟨rfl, uw_Mg, by decide, to_Mg, n_Mg, Or.inl w_884⟩
set_option maxRecDepth 100000 in
theorem fa_Mo_158 : FA "VaryStoreModel" 158 8 3 R_Mg F_Mg 12 t_Mg := ⟨rfl, uw_Mg, by decide, to_Mg, n_Mg, Or.inl w_880⟩
set_option maxRecDepth 100000 in
theorem fa_Mo_161 : FA "VaryStoreModel" 161 8 4 R_Mg F_Mg 12 t_Mg := ⟨rfl, uw_Mg, by decide, to_Mg, n_Mg, Or.inl w_881⟩
set_option maxRecDepth 100000 in
theorem fa_Mo_164 : FA "VaryStoreModel" 164 6 3 R_Mo F_Mo 9 t_Mo := ⟨rfl, uw_Mo, by decide, to_Mo, n_Mo, Or.inl w_738⟩
set_option maxRecDepth 100000 in
theorem fa_Mo_167 : FA "VaryStoreModel" 167 8 5 R_Mg F_Mg 12 t_Mg := ⟨rfl, uw_Mg, by decide, to_Mg, n_Mg, Or.inl w_882⟩
set_option maxRecDepth 100000 in
theorem fa_Mo_188 : FA "VaryStoreModel" 188 8 0 R_Mg F_Mg 12 t_Mg := ⟨rfl, uw_Mg, by decide, to_Mg, n_Mg, Or.inl w_875⟩
set_option maxRecDepth 100000 in
theorem fa_Mo_191 : FA "VaryStoreModel" 191 8 9 R_Mg F_Mg 12 t_Mg := ⟨rfl, uw_Mg, by decide, to_Mg, n_Mg, Or.inl w_886⟩
set_option maxRecDepth 100000 in
theorem fa_Mo_195 : FA "VaryStoreModel" 195 8 10 R_Mg F_Mg 12 t_Mg := ⟨rfl, uw_Mg, by decide, to_Mg, n_Mg, Or.inl w_887⟩
set_option maxRecDepth 100000 in
theorem fa_Mo_242 : FA "VaryStoreModel" 242 8 8 R_Mg F_Mg 12 t_Mg := ⟨rfl, uw_Mg, by decide, to_Mg, n_Mg, Or.inl w_885⟩
def k_Mo_setWords0 : MS := ("VaryStoreModel", b_Mo_setWords, 3, none, "setWords", { frames := 2, cells := 5, slots := 80, locals := 52 }, [])
set_option maxRecDepth 100000 in
set_option maxHeartbeats 4000000 in
theorem c_Mo_setWords0 (Γ : GE) (r : Nat) (g : Nat) (g0 : Int) (g1 : Int) (g2 : Int) (g3 : Int) (g4 : Int) (g5 : Int) (g6 : Int) (g7 : Int) (us : Int64) (e1 : Nat) (e2 : Nat) {M : HM} {n : Nat} (hgn : g < n) (p0 : M (g) = some (.inr (8, [.int (iI (g0)), .int (iI (g1)), .int (iI (g2)), .int (iI (g3)), .int (iI (g4)), .int (iI (g5)), .int (iI (g6)), .int (iI (g7)), .null, .ref (e1), .ref (e2), .long (us)]))) : CT Γ k_Mo_setWords0 y_Mo_setWords [.ref (r), .ref (g), .null] M (n) (fun v M' n' => n + 5 = n' ∧ (∀ q, q ≠ n → q ≠ g → q ≠ n + 1 → q ≠ n + 2 → q ≠ n + 3 → q ≠ n + 4 → M' q = M q) ∧ v = none ∧ M' (g) = some (.inr (8, [.int (iI (g0)), .int (iI ((-2))), .int (iI ((-2))), .int (iI (g3)), .int (iI (g4)), .int (iI (g5)), .int (iI (0)), .int (iI (0)), .null, .ref (e1), .ref (e2), .long (us)]))) := by
  refine CT.of (by decide) rfl rfl 0 rfl (Nat.le_of_ble_eq_true rfl) rfl ?_
  refine g_aload_n d_Mo_setWords_0 rfl ?_
  refine g_aload_nN d_Mo_setWords_1 rfl ?_
  refine g_ldcL w_923 d_Mo_setWords_2 ?_
  refine g_lconst d_Mo_setWords_5 rfl ?_
  refine g_callS2 (ν := k_Mo_name) ⟨w_797, w_35, w_799, by decide, by decide, by decide +kernel⟩ w_798 (c_Mo_name Γ (8299409953712596837) (Int64.ofNat 0)  ) d_Mo_setWords_6 ⟨⟨by decide, by decide⟩, ⟨by decide, by decide⟩⟩ (Nat.le_of_ble_eq_true rfl) (fun v1 M1 n1 hQ1 hn1 hd1 => ?_)
  obtain ⟨rfl, hf1, kn1x0, fn1x1, rfl, hb1_kn1x0_0, hw1_0⟩ := hQ1
  refine g_callS2 (ν := k_Mo_word0) ⟨w_838, w_35, w_840, by decide, by decide, by decide +kernel⟩ w_839 (c_Mo_word0 Γ (n)  ) d_Mo_setWords_9 ⟨⟨by decide, by decide⟩, ⟨by decide, by decide⟩⟩ (Nat.le_of_ble_eq_true rfl) (fun v2 M2 n2 hQ2 hn2 hd2 => ?_)
  obtain ⟨rfl, hf2, rfl⟩ := hQ2
  refine g_put fa_Mo_119 d_Mo_setWords_12 ((hf2 (g) ).trans ((hf1 (g) (by omega)).trans p0)) (Nat.le_of_ble_eq_true rfl) rfl rfl rfl ?_
  refine g_aload_n d_Mo_setWords_15 rfl ?_
  refine g_aload_nN d_Mo_setWords_16 rfl ?_
  refine g_ldcL w_847 d_Mo_setWords_17 ?_
  refine g_lconst d_Mo_setWords_20 rfl ?_
  refine g_callS2 (ν := k_Mo_name) ⟨w_797, w_35, w_799, by decide, by decide, by decide +kernel⟩ w_798 (c_Mo_name Γ (30787941246789477) (Int64.ofNat 0)  ) d_Mo_setWords_21 ⟨⟨by decide, by decide⟩, ⟨by decide, by decide⟩⟩ (Nat.le_of_ble_eq_true rfl) (fun v3 M3 n3 hQ3 hn3 hd3 => ?_)
  obtain ⟨rfl, hf3, kn3x0, fn3x1, rfl, hb3_kn3x0_0, hw3_0⟩ := hQ3
  refine g_callS2 (ν := k_Mo_word0) ⟨w_838, w_35, w_840, by decide, by decide, by decide +kernel⟩ w_839 (c_Mo_word0 Γ (n + 1)  ) d_Mo_setWords_24 ⟨⟨by decide, by decide⟩, ⟨by decide, by decide⟩⟩ (Nat.le_of_ble_eq_true rfl) (fun v4 M4 n4 hQ4 hn4 hd4 => ?_)
  obtain ⟨rfl, hf4, rfl⟩ := hQ4
  refine g_put fa_Mo_124 d_Mo_setWords_27 ((hf4 (g) ).trans ((hf3 (g) (by omega)).trans (hu_same _ _ _))) (Nat.le_of_ble_eq_true rfl) rfl rfl rfl ?_
  refine g_aload_n d_Mo_setWords_30 rfl ?_
  refine g_aload_nN d_Mo_setWords_31 rfl ?_
  refine g_ldcL w_834 d_Mo_setWords_32 ?_
  refine g_lconst d_Mo_setWords_35 rfl ?_
  refine g_callS3 (ν := k_Mo_has0) ⟨w_835, w_35, w_837, by decide, by decide, by decide +kernel⟩ w_836 (c_Mo_has0 Γ (7957628971445872741) (Int64.ofNat 0)  ) d_Mo_setWords_36 ⟨⟨by decide, by decide⟩, ⟨by decide, by decide⟩⟩ (Nat.le_of_ble_eq_true rfl) (fun v5 M5 n5 hQ5 hn5 hd5 => ?_)
  obtain ⟨rfl, hf5, rfl⟩ := hQ5
  refine g_put fa_Mo_133 d_Mo_setWords_39 ((hf5 (g) (by omega)).trans (hu_same _ _ _)) (Nat.le_of_ble_eq_true rfl) rfl (by first | rfl | decide) rfl ?_
  refine g_aload_n d_Mo_setWords_42 rfl ?_
  refine g_aload_n d_Mo_setWords_43 rfl ?_
  refine g_get fa_Mo_133 d_Mo_setWords_44 (hu_same _ _ _) rfl ?_
  refine g_if_ne (tgt := 85) d_Mo_setWords_47 (by decide) (fun h6 => False.elim (by omega)) (fun _ => ?_)
  refine g_aload_n d_Mo_setWords_50 rfl ?_
  refine g_get fa_Mo_119 d_Mo_setWords_51 (hu_same _ _ _) rfl ?_
  refine g_bipush d_Mo_setWords_54 (by decide) ?_
  refine g_icmp_ne (tgt := 85) d_Mo_setWords_56 (by decide) (fun h7 => False.elim (by omega)) (fun _ => ?_)
  refine g_aload_nN d_Mo_setWords_59 rfl ?_
  refine g_ldcL w_924 d_Mo_setWords_60 ?_
  refine g_ldcL w_925 d_Mo_setWords_63 ?_
  refine g_callS3 (ν := k_Mo_has0) ⟨w_835, w_35, w_837, by decide, by decide, by decide +kernel⟩ w_836 (c_Mo_has0 Γ (7887337265225164150) (27422272652407909)  ) d_Mo_setWords_66 ⟨⟨by decide, by decide⟩, ⟨by decide, by decide⟩⟩ (Nat.le_of_ble_eq_true rfl) (fun v8 M8 n8 hQ8 hn8 hd8 => ?_)
  obtain ⟨rfl, hf8, rfl⟩ := hQ8
  refine g_if_ne (tgt := 85) d_Mo_setWords_69 (by decide) (fun h9 => False.elim (by omega)) (fun _ => ?_)
  refine g_aload_nN d_Mo_setWords_72 rfl ?_
  refine g_ldcL w_926 d_Mo_setWords_73 ?_
  refine g_ldcL w_927 d_Mo_setWords_76 ?_
  refine g_callS3 (ν := k_Mo_has0) ⟨w_835, w_35, w_837, by decide, by decide, by decide +kernel⟩ w_836 (c_Mo_has0 Γ (8102661242812723813) (8530218369127904357)  ) d_Mo_setWords_79 ⟨⟨by decide, by decide⟩, ⟨by decide, by decide⟩⟩ (Nat.le_of_ble_eq_true rfl) (fun v10 M10 n10 hQ10 hn10 hd10 => ?_)
  obtain ⟨rfl, hf10, rfl⟩ := hQ10
  refine g_if_eq (tgt := 89) d_Mo_setWords_82 (by decide) (fun _ => ?_) (fun h11 => False.elim (by omega))
  refine g_iconst d_Mo_setWords_89 ?_
  refine g_put fa_Mo_145 d_Mo_setWords_90 ((hf10 (g) (by omega)).trans ((hf8 (g) (by omega)).trans (hu_same _ _ _))) (Nat.le_of_ble_eq_true rfl) rfl (by first | rfl | decide) rfl ?_
  refine g_vret d_Mo_setWords_93 rfl ?_ (by decide) (by decide)
  exact ⟨rfl, fun q e0 e1 e2 e3 e4 e5 => ((hu_ne (by omega)).trans ((hf10 q (by omega)).trans ((hf8 q (by omega)).trans ((hu_ne (by omega)).trans ((hf5 q (by omega)).trans ((hu_ne (by omega)).trans ((hf4 q ).trans ((hf3 q (by omega)).trans ((hu_ne (by omega)).trans ((hf2 q ).trans ((hf1 q (by omega)).trans rfl))))))))))), rfl, (hu_same _ _ _)⟩
def k_Mo_setTimes0 : MS := ("VaryStoreModel", b_Mo_setTimes, 7, none, "setTimes", { frames := 2, cells := 3, slots := 48, locals := 48 }, [])
set_option maxRecDepth 100000 in
set_option maxHeartbeats 4000000 in
theorem c_Mo_setTimes0 (Γ : GE) (r : Nat) (fa : Int) (tm : Int) (th : Int) (ev : Int64) (rq : Nat) (g : Nat) (t : Nat) (g0 : Int) (g3 : Int) (g4 : Int) (g5 : Int) (g6 : Int) (g7 : Int) (us : Int64) (e1 : Nat) (e2 : Nat) (x0 : Nat) (x1 : Nat) (x2 : Nat) (x3 : Nat) {M : HM} {n : Nat} (hgn : g < n) (htn : t < n) (hrn : r + 8 ≤ n) (hgr : r + 8 ≤ g ∨ g < r) (hgt : g ≠ t) (p0 : M (r) = some (.inr (6, [.ref (r + 1), .int (iI (0)), .int (iI (fa)), .int (iI (tm)), .int (iI (th)), .long (ev), .ref (rq), .ref (r + 7), .int (iI (0))]))) (p1 : M (g) = some (.inr (8, [.int (iI (g0)), .int (iI ((-2))), .int (iI ((-2))), .int (iI (g3)), .int (iI (g4)), .int (iI (g5)), .int (iI (g6)), .int (iI (g7)), .null, .ref (e1), .ref (e2), .long (us)]))) (p2 : M (t) = some (.inr (7, [.ref (x0), .int (iI (0)), .ref (x1), .ref (x2), .ref (x3)]))) : CT Γ k_Mo_setTimes0 y_Mo_setTimes [.ref (r), .ref (g), .ref (t)] M (n) (fun v M' n' => n + 3 = n' ∧ (∀ q, q ≠ n → q ≠ n + 1 → q ≠ n + 2 → q ≠ g → M' q = M q) ∧ v = none ∧ M' (g) = some (.inr (8, [.int (iI (g0)), .int (iI ((-2))), .int (iI ((-2))), .int (iI (0)), .int (iI (0)), .int (iI (tm)), .int (iI (g6)), .int (iI (g7)), .null, .ref (e1), .ref (e2), .long (us)]))) := by
  refine CT.of (by decide) rfl rfl 4 rfl (Nat.le_of_ble_eq_true rfl) rfl ?_
  refine g_aload_n d_Mo_setTimes_0 rfl ?_
  refine g_ldcL w_932 d_Mo_setTimes_1 ?_
  refine g_lconst d_Mo_setTimes_4 rfl ?_
  refine g_callS2 (ν := k_Mo_name) ⟨w_797, w_35, w_799, by decide, by decide, by decide +kernel⟩ w_798 (c_Mo_name Γ (28561396848551283) (Int64.ofNat 0)  ) d_Mo_setTimes_5 ⟨⟨by decide, by decide⟩, ⟨by decide, by decide⟩⟩ (Nat.le_of_ble_eq_true rfl) (fun v1 M1 n1 hQ1 hn1 hd1 => ?_)
  obtain ⟨rfl, hf1, kn1x0, fn1x1, rfl, hb1_kn1x0_0, hw1_0⟩ := hQ1
  refine g_callS2 (ν := k_Mo_numberIn0) ⟨w_933, w_35, w_935, by decide, by decide, by decide +kernel⟩ w_934 (c_Mo_numberIn0 Γ (t) (n) (x0) (x1) (x2) (x3)  ((hf1 (t) (by omega)).trans p2)) d_Mo_setTimes_8 ⟨⟨by decide, by decide⟩, ⟨by decide, by decide⟩⟩ (Nat.le_of_ble_eq_true rfl) (fun v2 M2 n2 hQ2 hn2 hd2 => ?_)
  obtain ⟨rfl, hf2, rfl⟩ := hQ2
  refine g_istore_n d_Mo_setTimes_11 (by decide) rfl ?_
  refine g_aload_n d_Mo_setTimes_12 rfl ?_
  refine g_ldcL w_936 d_Mo_setTimes_13 ?_
  refine g_lconst d_Mo_setTimes_16 rfl ?_
  refine g_callS2 (ν := k_Mo_name) ⟨w_797, w_35, w_799, by decide, by decide, by decide +kernel⟩ w_798 (c_Mo_name Γ (1684108389) (Int64.ofNat 0)  ) d_Mo_setTimes_17 ⟨⟨by decide, by decide⟩, ⟨by decide, by decide⟩⟩ (Nat.le_of_ble_eq_true rfl) (fun v3 M3 n3 hQ3 hn3 hd3 => ?_)
  obtain ⟨rfl, hf3, kn3x0, fn3x1, rfl, hb3_kn3x0_0, hw3_0⟩ := hQ3
  refine g_callS2 (ν := k_Mo_numberIn0) ⟨w_933, w_35, w_935, by decide, by decide, by decide +kernel⟩ w_934 (c_Mo_numberIn0 Γ (t) (n + 1) (x0) (x1) (x2) (x3)  ((hf3 (t) (by omega)).trans ((hf2 (t) ).trans ((hf1 (t) (by omega)).trans p2)))) d_Mo_setTimes_20 ⟨⟨by decide, by decide⟩, ⟨by decide, by decide⟩⟩ (Nat.le_of_ble_eq_true rfl) (fun v4 M4 n4 hQ4 hn4 hd4 => ?_)
  obtain ⟨rfl, hf4, rfl⟩ := hQ4
  refine g_istore d_Mo_setTimes_23 (by decide) rfl ?_
  refine g_aload_n d_Mo_setTimes_25 rfl ?_
  refine g_ldcL w_937 d_Mo_setTimes_26 ?_
  refine g_lconst d_Mo_setTimes_29 rfl ?_
  refine g_callS2 (ν := k_Mo_name) ⟨w_797, w_35, w_799, by decide, by decide, by decide +kernel⟩ w_798 (c_Mo_name Γ (6383461) (Int64.ofNat 0)  ) d_Mo_setTimes_30 ⟨⟨by decide, by decide⟩, ⟨by decide, by decide⟩⟩ (Nat.le_of_ble_eq_true rfl) (fun v5 M5 n5 hQ5 hn5 hd5 => ?_)
  obtain ⟨rfl, hf5, kn5x0, fn5x1, rfl, hb5_kn5x0_0, hw5_0⟩ := hQ5
  refine g_callS2 (ν := k_Mo_numberIn0) ⟨w_933, w_35, w_935, by decide, by decide, by decide +kernel⟩ w_934 (c_Mo_numberIn0 Γ (t) (n + 2) (x0) (x1) (x2) (x3)  ((hf5 (t) (by omega)).trans ((hf4 (t) ).trans ((hf3 (t) (by omega)).trans ((hf2 (t) ).trans ((hf1 (t) (by omega)).trans p2)))))) d_Mo_setTimes_33 ⟨⟨by decide, by decide⟩, ⟨by decide, by decide⟩⟩ (Nat.le_of_ble_eq_true rfl) (fun v6 M6 n6 hQ6 hn6 hd6 => ?_)
  obtain ⟨rfl, hf6, rfl⟩ := hQ6
  refine g_istore d_Mo_setTimes_36 (by decide) rfl ?_
  refine g_iload_n d_Mo_setTimes_38 rfl ?_
  refine g_if_lt (tgt := 60) d_Mo_setTimes_39 (by decide) (fun _ => ?_) (fun h7 => False.elim (by omega))
  refine g_iconst d_Mo_setTimes_60 ?_
  refine g_istore d_Mo_setTimes_61 (by decide) rfl ?_
  refine g_aload_n d_Mo_setTimes_63 rfl ?_
  refine g_aload_n d_Mo_setTimes_64 rfl ?_
  refine g_get fa_Mo_119 d_Mo_setTimes_65 ((hf6 (g) ).trans ((hf5 (g) (by omega)).trans ((hf4 (g) ).trans ((hf3 (g) (by omega)).trans ((hf2 (g) ).trans ((hf1 (g) (by omega)).trans p1)))))) rfl ?_
  refine g_if_lt (tgt := 78) d_Mo_setTimes_68 (by decide) (fun _ => ?_) (fun h8 => False.elim (by omega))
  refine g_aload_n d_Mo_setTimes_78 rfl ?_
  refine g_get fa_Mo_124 d_Mo_setTimes_79 ((hf6 (g) ).trans ((hf5 (g) (by omega)).trans ((hf4 (g) ).trans ((hf3 (g) (by omega)).trans ((hf2 (g) ).trans ((hf1 (g) (by omega)).trans p1)))))) rfl ?_
  refine g_if_lt (tgt := 92) d_Mo_setTimes_82 (by decide) (fun _ => ?_) (fun h9 => False.elim (by omega))
  refine g_iload d_Mo_setTimes_92 rfl ?_
  refine g_put fa_Mo_158 d_Mo_setTimes_94 ((hf6 (g) ).trans ((hf5 (g) (by omega)).trans ((hf4 (g) ).trans ((hf3 (g) (by omega)).trans ((hf2 (g) ).trans ((hf1 (g) (by omega)).trans p1)))))) (Nat.le_of_ble_eq_true rfl) rfl rfl rfl ?_
  refine g_aload_n d_Mo_setTimes_97 rfl ?_
  refine g_iload d_Mo_setTimes_98 rfl ?_
  refine g_if_lt (tgt := 108) d_Mo_setTimes_100 (by decide) (fun _ => ?_) (fun h10 => False.elim (by omega))
  refine g_iconst d_Mo_setTimes_108 ?_
  refine g_put fa_Mo_161 d_Mo_setTimes_109 (hu_same _ _ _) (Nat.le_of_ble_eq_true rfl) rfl rfl rfl ?_
  refine g_aload_n d_Mo_setTimes_112 rfl ?_
  refine g_aload_n d_Mo_setTimes_113 rfl ?_
  refine g_get fa_Mo_164 d_Mo_setTimes_114 ((hu_ne (by omega)).trans ((hu_ne (by omega)).trans ((hf6 (r) ).trans ((hf5 (r) (by omega)).trans ((hf4 (r) ).trans ((hf3 (r) (by omega)).trans ((hf2 (r) ).trans ((hf1 (r) (by omega)).trans p0)))))))) rfl ?_
  refine g_put fa_Mo_167 d_Mo_setTimes_117 (hu_same _ _ _) (Nat.le_of_ble_eq_true rfl) rfl rfl rfl ?_
  refine g_vret d_Mo_setTimes_120 rfl ?_ (by decide) (by decide)
  exact ⟨rfl, fun q e0 e1 e2 e3 => ((hu_ne (by omega)).trans ((hu_ne (by omega)).trans ((hu_ne (by omega)).trans ((hf6 q ).trans ((hf5 q (by omega)).trans ((hf4 q ).trans ((hf3 q (by omega)).trans ((hf2 q ).trans ((hf1 q (by omega)).trans rfl))))))))), rfl, (hu_same _ _ _)⟩
def k_Mo_ask0 : MS := ("VaryStoreModel", b_Mo_ask, 6, (some .int), "ask", { frames := 3, cells := 5, slots := 305, locals := 58 }, [])
set_option maxRecDepth 100000 in
set_option maxHeartbeats 4000000 in
theorem c_Mo_ask0 (Γ : GE) (r : Nat) (fa : Int) (tm : Int) (th : Int) (ev : Int64) (rq : Nat) (path : Int) {M : HM} {n : Nat} (pa : -2147483648 ≤ path) (pb : path < 2147483648) (pc9 : ¬ (0 ≤ path ∧ path < 16)) (hrn : r + 8 ≤ n) (p0 : M (r) = some (.inr (6, [.ref (r + 1), .int (iI (0)), .int (iI (fa)), .int (iI (tm)), .int (iI (th)), .long (ev), .ref (rq), .ref (r + 7), .int (iI (0))]))) : CT Γ k_Mo_ask0 y_Mo_ask [.ref (r), .int (iI (path))] M (n) (fun v M' n' => n + 5 = n' ∧ (∀ q, q ≠ r → q ≠ n → q ≠ n + 1 → q ≠ n + 2 → q ≠ n + 3 → q ≠ n + 4 → M' q = M q) ∧ v = some (.int (iI (0))) ∧ M' (r) = some (.inr (6, [.ref (r + 1), .int (iI (0)), .int (iI ((-1))), .int (iI (tm)), .int (iI (1)), .long (ev), .ref (rq), .ref (r + 7), .int (iI (0))])) ∧ M' (n) = some (.inr (7, [.ref (n + 4), .int (iI (0)), .ref (n + 1), .ref (n + 2), .ref (n + 3)])) ∧ M' (n + 1) = some (.inl (Γ.2.2.1 1, 100, .inl (fun _ => iI 0))) ∧ M' (n + 2) = some (.inl (Γ.2.2.1 1, 100, .inl (fun _ => iI 0))) ∧ M' (n + 3) = some (.inl (Γ.2.2.1 1, 100, .inl (fun _ => iI 0))) ∧ M' (n + 4) = some (.inl (Γ.2.2.1 1, 0, .inl (fun _ => iI 0)))) := by
  refine CT.of (by decide) rfl rfl 4 rfl (Nat.le_of_ble_eq_true rfl) rfl ?_
  refine g_aload_n d_Mo_ask_0 rfl ?_
  refine g_callV0 (ν := k_Mo_read0) ⟨w_776, w_35, w_779, by decide, by decide, by decide +kernel⟩ w_778 w_17 (c_Mo_read0 Γ (r) (fa) (tm) (th) (ev) (rq) (by omega) p0) d_Mo_ask_1 p0 rfl rfl ⟨⟨by decide, by decide⟩, ⟨by decide, by decide⟩⟩ (Nat.le_of_ble_eq_true rfl) (fun v1 M1 n1 hQ1 hn1 hd1 => ?_)
  obtain ⟨rfl, hf1, rfl, hw1_0, hw1_1, hw1_2, hw1_3, hw1_4, hw1_5⟩ := hQ1
  refine g_astore_n d_Mo_ask_4 (by decide) rfl ?_
  refine g_aload_n d_Mo_ask_5 rfl ?_
  refine g_aload_n d_Mo_ask_6 rfl ?_
  refine g_ifnull d_Mo_ask_7 ?_
  refine g_iload_n d_Mo_ask_10 rfl ?_
  refine g_callS1 (ν := k_Mo_isPath0) ⟨w_789, w_35, w_791, by decide, by decide, by decide +kernel⟩ w_790 (c_Mo_isPath0 Γ (path) (by omega) (by omega) (by omega) ) d_Mo_ask_11 ⟨⟨by decide, by decide⟩, ⟨by decide, by decide⟩⟩ (Nat.le_of_ble_eq_true rfl) (fun v2 M2 n2 hQ2 hn2 hd2 => ?_)
  obtain ⟨rfl, hf2, rfl⟩ := hQ2
  refine g_if_ne (tgt := 21) d_Mo_ask_14 (by decide) (fun h3 => False.elim (by omega)) (fun _ => ?_)
  refine g_iconst d_Mo_ask_17 ?_
  refine g_goto (tgt := 22) d_Mo_ask_18 (by decide) ?_
  refine g_put fa_Mo_32 d_Mo_ask_22 ((hf2 (r) ).trans hw1_0) (Nat.le_of_ble_eq_true rfl) rfl rfl rfl ?_
  refine g_aload_n d_Mo_ask_25 rfl ?_
  refine g_get fa_Mo_32 d_Mo_ask_26 (hu_same _ _ _) rfl ?_
  refine g_if_eq (tgt := 34) d_Mo_ask_29 (by decide) (fun h4 => False.elim (by omega)) (fun _ => ?_)
  refine g_iconst d_Mo_ask_32 ?_
  refine g_iret d_Mo_ask_33 rfl ?_ (by decide) (by decide)
  exact ⟨rfl, fun q e0 e1 e2 e3 e4 e5 => ((hu_ne (by omega)).trans ((hf2 q ).trans ((hf1 q (by omega) (by omega) (by omega) (by omega) (by omega) (by omega)).trans rfl))), rfl, (hu_same _ _ _), ((hu_ne (by omega)).trans ((hf2 (n) ).trans hw1_1)), ((hu_ne (by omega)).trans ((hf2 (n + 1) ).trans hw1_2)), ((hu_ne (by omega)).trans ((hf2 (n + 2) ).trans hw1_3)), ((hu_ne (by omega)).trans ((hf2 (n + 3) ).trans hw1_4)), ((hu_ne (by omega)).trans ((hf2 (n + 4) ).trans hw1_5))⟩
def k_Mo_ask1 : MS := ("VaryStoreModel", b_Mo_ask, 6, (some .int), "ask", { frames := 3, cells := 7, slots := 337, locals := 58 }, [])
set_option maxRecDepth 100000 in
set_option maxHeartbeats 4000000 in
theorem c_Mo_ask1 (Γ : GE) (r : Nat) (fa : Int) (tm : Int) (th : Int) (ev : Int64) (rq : Nat) (path : Int) {M : HM} {n : Nat} (pa : 0 ≤ path) (pb : path < 16) (hrn : r + 8 ≤ n) (p0 : M (r) = some (.inr (6, [.ref (r + 1), .int (iI (0)), .int (iI (fa)), .int (iI (tm)), .int (iI (th)), .long (ev), .ref (rq), .ref (r + 7), .int (iI (0))]))) : CT Γ k_Mo_ask1 y_Mo_ask [.ref (r), .int (iI (path))] M (n) (fun v M' n' => n + 7 = n' ∧ (∀ q, q ≠ r → q ≠ n → q ≠ n + 1 → q ≠ n + 2 → q ≠ n + 3 → q ≠ n + 4 → q ≠ n + 5 → q ≠ n + 6 → M' q = M q) ∧ v = some (.int (iI (0))) ∧ M' (r) = some (.inr (6, [.ref (r + 1), .int (iI (0)), .int (iI ((-1))), .int (iI (tm)), .int (iI (0)), .long (ev), .ref (n), .ref (r + 7), .int (iI (0))])) ∧ M' (n) = some (.inr (7, [.ref (n + 4), .int (iI (0)), .ref (n + 1), .ref (n + 2), .ref (n + 3)])) ∧ M' (n + 1) = some (.inl (Γ.2.2.1 1, 100, .inl (fun _ => iI 0))) ∧ M' (n + 2) = some (.inl (Γ.2.2.1 1, 100, .inl (fun _ => iI 0))) ∧ M' (n + 3) = some (.inl (Γ.2.2.1 1, 100, .inl (fun _ => iI 0))) ∧ M' (n + 4) = some (.inl (Γ.2.2.1 1, 0, .inl (fun _ => iI 0)))) := by
  refine CT.of (by decide) rfl rfl 4 rfl (Nat.le_of_ble_eq_true rfl) rfl ?_
  refine g_aload_n d_Mo_ask_0 rfl ?_
  refine g_callV0 (ν := k_Mo_read0) ⟨w_776, w_35, w_779, by decide, by decide, by decide +kernel⟩ w_778 w_17 (c_Mo_read0 Γ (r) (fa) (tm) (th) (ev) (rq) (by omega) p0) d_Mo_ask_1 p0 rfl rfl ⟨⟨by decide, by decide⟩, ⟨by decide, by decide⟩⟩ (Nat.le_of_ble_eq_true rfl) (fun v1 M1 n1 hQ1 hn1 hd1 => ?_)
  obtain ⟨rfl, hf1, rfl, hw1_0, hw1_1, hw1_2, hw1_3, hw1_4, hw1_5⟩ := hQ1
  refine g_astore_n d_Mo_ask_4 (by decide) rfl ?_
  refine g_aload_n d_Mo_ask_5 rfl ?_
  refine g_aload_n d_Mo_ask_6 rfl ?_
  refine g_ifnull d_Mo_ask_7 ?_
  refine g_iload_n d_Mo_ask_10 rfl ?_
  refine g_callS1 (ν := k_Mo_isPath1) ⟨w_789, w_35, w_791, by decide, by decide, by decide +kernel⟩ w_790 (c_Mo_isPath1 Γ (path) (by omega) (by omega) ) d_Mo_ask_11 ⟨⟨by decide, by decide⟩, ⟨by decide, by decide⟩⟩ (Nat.le_of_ble_eq_true rfl) (fun v2 M2 n2 hQ2 hn2 hd2 => ?_)
  obtain ⟨rfl, hf2, rfl⟩ := hQ2
  refine g_if_ne (tgt := 21) d_Mo_ask_14 (by decide) (fun _ => ?_) (fun h3 => False.elim (by omega))
  refine g_iconst d_Mo_ask_21 ?_
  refine g_put fa_Mo_32 d_Mo_ask_22 ((hf2 (r) ).trans hw1_0) (Nat.le_of_ble_eq_true rfl) rfl rfl rfl ?_
  refine g_aload_n d_Mo_ask_25 rfl ?_
  refine g_get fa_Mo_32 d_Mo_ask_26 (hu_same _ _ _) rfl ?_
  refine g_if_eq (tgt := 34) d_Mo_ask_29 (by decide) (fun _ => ?_) (fun h4 => False.elim (by omega))
  refine g_aload_n d_Mo_ask_34 rfl ?_
  refine g_aload_n d_Mo_ask_35 rfl ?_
  refine g_put fa_Mo_22 d_Mo_ask_36 (hu_same _ _ _) (Nat.le_of_ble_eq_true rfl) rfl rfl rfl ?_
  refine g_aload_n d_Mo_ask_39 rfl ?_
  refine g_callS0 (ν := k_Mo_cacheControl) ⟨w_792, w_35, w_794, by decide, by decide, by decide +kernel⟩ w_793 (c_Mo_cacheControl Γ   ) d_Mo_ask_40 ⟨⟨by decide, by decide⟩, ⟨by decide, by decide⟩⟩ (Nat.le_of_ble_eq_true rfl) (fun v5 M5 n5 hQ5 hn5 hd5 => ?_)
  obtain ⟨rfl, hf5, kn5x0, fn5x1, rfl, hb5_kn5x0_0, hw5_0⟩ := hQ5
  refine g_callS2 (ν := k_Mo_valueOf0) ⟨w_800, w_35, w_802, by decide, by decide, by decide +kernel⟩ w_801 (c_Mo_valueOf0 Γ (n) (n + 5) (n + 4) (n + 1) (n + 2) (n + 3)  ((hf5 (n) (by omega)).trans ((hu_ne (by omega)).trans ((hu_ne (by omega)).trans ((hf2 (n) ).trans hw1_1))))) d_Mo_ask_43 ⟨⟨by decide, by decide⟩, ⟨by decide, by decide⟩⟩ (Nat.le_of_ble_eq_true rfl) (fun v6 M6 n6 hQ6 hn6 hd6 => ?_)
  obtain ⟨rfl, hf6, rfl⟩ := hQ6
  refine g_astore_nN d_Mo_ask_46 (by decide) rfl ?_
  refine g_aload_n d_Mo_ask_47 rfl ?_
  refine g_iload_n d_Mo_ask_48 rfl ?_
  refine g_callV1 (ν := k_Mo_theOne0) ⟨w_812, w_35, w_815, by decide, by decide, by decide +kernel⟩ w_814 w_18 (c_Mo_theOne0 Γ (r) ((-1)) (tm) (0) (ev) (n) (path)  ((hf6 (r) ).trans ((hf5 (r) (by omega)).trans (hu_same _ _ _)))) d_Mo_ask_49 ((hf6 (r) ).trans ((hf5 (r) (by omega)).trans (hu_same _ _ _))) rfl rfl ⟨⟨by decide, by decide⟩, ⟨by decide, by decide⟩⟩ (Nat.le_of_ble_eq_true rfl) (fun v7 M7 n7 hQ7 hn7 hd7 => ?_)
  obtain ⟨rfl, hf7, rfl⟩ := hQ7
  refine g_istore d_Mo_ask_52 (by decide) rfl ?_
  refine g_iload d_Mo_ask_54 rfl ?_
  refine g_iconst d_Mo_ask_56 ?_
  refine g_icmp_ne (tgt := 64) d_Mo_ask_57 (by decide) (fun h8 => False.elim (by omega)) (fun _ => ?_)
  refine g_iconst d_Mo_ask_60 ?_
  refine g_goto (tgt := 76) d_Mo_ask_61 (by decide) ?_
  refine g_istore d_Mo_ask_76 (by decide) rfl ?_
  refine g_iload d_Mo_ask_78 rfl ?_
  refine g_iconst d_Mo_ask_80 ?_
  refine g_icmp_eq (tgt := 90) d_Mo_ask_81 (by decide) (fun h9 => False.elim (by omega)) (fun _ => ?_)
  refine g_iload d_Mo_ask_84 rfl ?_
  refine g_iconst d_Mo_ask_86 ?_
  refine g_icmp_ne (tgt := 104) d_Mo_ask_87 (by decide) (fun _ => ?_) (fun h10 => False.elim (by omega))
  refine g_aload_nN d_Mo_ask_104 rfl ?_
  refine g_ldcL w_864 d_Mo_ask_105 ?_
  refine g_ldcL w_865 d_Mo_ask_108 ?_
  refine g_callS3 (ν := k_Mo_has0) ⟨w_835, w_35, w_837, by decide, by decide, by decide +kernel⟩ w_836 (c_Mo_has0 Γ (8029474453356897837) (109269930763620)  ) d_Mo_ask_111 ⟨⟨by decide, by decide⟩, ⟨by decide, by decide⟩⟩ (Nat.le_of_ble_eq_true rfl) (fun v11 M11 n11 hQ11 hn11 hd11 => ?_)
  obtain ⟨rfl, hf11, rfl⟩ := hQ11
  refine g_if_eq (tgt := 119) d_Mo_ask_114 (by decide) (fun _ => ?_) (fun h12 => False.elim (by omega))
  refine g_iload d_Mo_ask_119 rfl ?_
  refine g_iret d_Mo_ask_121 rfl ?_ (by decide) (by decide)
  exact ⟨rfl, fun q e0 e1 e2 e3 e4 e5 e6 e7 => ((hf11 q (by omega)).trans ((hf7 q ).trans ((hf6 q ).trans ((hf5 q (by omega)).trans ((hu_ne (by omega)).trans ((hu_ne (by omega)).trans ((hf2 q ).trans ((hf1 q (by omega) (by omega) (by omega) (by omega) (by omega) (by omega)).trans rfl)))))))), rfl, ((hf11 (r) (by omega)).trans ((hf7 (r) ).trans ((hf6 (r) ).trans ((hf5 (r) (by omega)).trans (hu_same _ _ _))))), ((hf11 (n) (by omega)).trans ((hf7 (n) ).trans ((hf6 (n) ).trans ((hf5 (n) (by omega)).trans ((hu_ne (by omega)).trans ((hu_ne (by omega)).trans ((hf2 (n) ).trans hw1_1))))))), ((hf11 (n + 1) (by omega)).trans ((hf7 (n + 1) ).trans ((hf6 (n + 1) ).trans ((hf5 (n + 1) (by omega)).trans ((hu_ne (by omega)).trans ((hu_ne (by omega)).trans ((hf2 (n + 1) ).trans hw1_2))))))), ((hf11 (n + 2) (by omega)).trans ((hf7 (n + 2) ).trans ((hf6 (n + 2) ).trans ((hf5 (n + 2) (by omega)).trans ((hu_ne (by omega)).trans ((hu_ne (by omega)).trans ((hf2 (n + 2) ).trans hw1_3))))))), ((hf11 (n + 3) (by omega)).trans ((hf7 (n + 3) ).trans ((hf6 (n + 3) ).trans ((hf5 (n + 3) (by omega)).trans ((hu_ne (by omega)).trans ((hu_ne (by omega)).trans ((hf2 (n + 3) ).trans hw1_4))))))), ((hf11 (n + 4) (by omega)).trans ((hf7 (n + 4) ).trans ((hf6 (n + 4) ).trans ((hf5 (n + 4) (by omega)).trans ((hu_ne (by omega)).trans ((hu_ne (by omega)).trans ((hf2 (n + 4) ).trans hw1_5)))))))⟩
def k_Mo_again0 : MS := ("VaryStoreModel", b_Mo_again, 7, (some .boolean), "again", { frames := 3, cells := 5, slots := 305, locals := 58 }, [])
set_option maxRecDepth 100000 in
set_option maxHeartbeats 4000000 in
theorem c_Mo_again0 (Γ : GE) (r : Nat) (fa : Int) (tm : Int) (th : Int) (ev : Int64) (rq : Nat) (path : Int) {M : HM} {n : Nat} (pa : -2147483648 ≤ path) (pb : path < 2147483648) (pc9 : ¬ (0 ≤ path ∧ path < 16)) (hrn : r + 8 ≤ n) (p0 : M (r) = some (.inr (6, [.ref (r + 1), .int (iI (0)), .int (iI (fa)), .int (iI (tm)), .int (iI (th)), .long (ev), .ref (rq), .ref (r + 7), .int (iI (0))]))) : CT Γ k_Mo_again0 y_Mo_again [.ref (r), .int (iI (path))] M (n) (fun v M' n' => n + 5 = n' ∧ (∀ q, q ≠ r → q ≠ n → q ≠ n + 1 → q ≠ n + 2 → q ≠ n + 3 → q ≠ n + 4 → M' q = M q) ∧ v = some (.int (iI (0))) ∧ M' (r) = some (.inr (6, [.ref (r + 1), .int (iI (0)), .int (iI ((-1))), .int (iI (tm)), .int (iI (1)), .long (ev), .ref (rq), .ref (r + 7), .int (iI (0))])) ∧ M' (n) = some (.inr (7, [.ref (n + 4), .int (iI (0)), .ref (n + 1), .ref (n + 2), .ref (n + 3)])) ∧ M' (n + 1) = some (.inl (Γ.2.2.1 1, 100, .inl (fun _ => iI 0))) ∧ M' (n + 2) = some (.inl (Γ.2.2.1 1, 100, .inl (fun _ => iI 0))) ∧ M' (n + 3) = some (.inl (Γ.2.2.1 1, 100, .inl (fun _ => iI 0))) ∧ M' (n + 4) = some (.inl (Γ.2.2.1 1, 0, .inl (fun _ => iI 0)))) := by
  refine CT.of (by decide) rfl rfl 5 rfl (Nat.le_of_ble_eq_true rfl) rfl ?_
  refine g_aload_n d_Mo_again_0 rfl ?_
  refine g_callV0 (ν := k_Mo_read0) ⟨w_776, w_35, w_779, by decide, by decide, by decide +kernel⟩ w_778 w_17 (c_Mo_read0 Γ (r) (fa) (tm) (th) (ev) (rq) (by omega) p0) d_Mo_again_1 p0 rfl rfl ⟨⟨by decide, by decide⟩, ⟨by decide, by decide⟩⟩ (Nat.le_of_ble_eq_true rfl) (fun v1 M1 n1 hQ1 hn1 hd1 => ?_)
  obtain ⟨rfl, hf1, rfl, hw1_0, hw1_1, hw1_2, hw1_3, hw1_4, hw1_5⟩ := hQ1
  refine g_astore_n d_Mo_again_4 (by decide) rfl ?_
  refine g_aload_n d_Mo_again_5 rfl ?_
  refine g_aload_n d_Mo_again_6 rfl ?_
  refine g_ifnull d_Mo_again_7 ?_
  refine g_iload_n d_Mo_again_10 rfl ?_
  refine g_callS1 (ν := k_Mo_isPath0) ⟨w_789, w_35, w_791, by decide, by decide, by decide +kernel⟩ w_790 (c_Mo_isPath0 Γ (path) (by omega) (by omega) (by omega) ) d_Mo_again_11 ⟨⟨by decide, by decide⟩, ⟨by decide, by decide⟩⟩ (Nat.le_of_ble_eq_true rfl) (fun v2 M2 n2 hQ2 hn2 hd2 => ?_)
  obtain ⟨rfl, hf2, rfl⟩ := hQ2
  refine g_if_ne (tgt := 21) d_Mo_again_14 (by decide) (fun h3 => False.elim (by omega)) (fun _ => ?_)
  refine g_iconst d_Mo_again_17 ?_
  refine g_goto (tgt := 22) d_Mo_again_18 (by decide) ?_
  refine g_put fa_Mo_32 d_Mo_again_22 ((hf2 (r) ).trans hw1_0) (Nat.le_of_ble_eq_true rfl) rfl rfl rfl ?_
  refine g_aload_n d_Mo_again_25 rfl ?_
  refine g_get fa_Mo_32 d_Mo_again_26 (hu_same _ _ _) rfl ?_
  refine g_if_eq (tgt := 34) d_Mo_again_29 (by decide) (fun h4 => False.elim (by omega)) (fun _ => ?_)
  refine g_iconst d_Mo_again_32 ?_
  refine g_zret (ty := .boolean) (by first | rfl | decide) d_Mo_again_33 rfl ?_ (by decide) (by decide)
  exact ⟨rfl, fun q e0 e1 e2 e3 e4 e5 => ((hu_ne (by omega)).trans ((hf2 q ).trans ((hf1 q (by omega) (by omega) (by omega) (by omega) (by omega) (by omega)).trans rfl))), rfl, (hu_same _ _ _), ((hu_ne (by omega)).trans ((hf2 (n) ).trans hw1_1)), ((hu_ne (by omega)).trans ((hf2 (n + 1) ).trans hw1_2)), ((hu_ne (by omega)).trans ((hf2 (n + 2) ).trans hw1_3)), ((hu_ne (by omega)).trans ((hf2 (n + 3) ).trans hw1_4)), ((hu_ne (by omega)).trans ((hf2 (n + 4) ).trans hw1_5))⟩
def k_Mo_again1 : MS := ("VaryStoreModel", b_Mo_again, 7, (some .boolean), "again", { frames := 3, cells := 5, slots := 305, locals := 58 }, [])
set_option maxRecDepth 100000 in
set_option maxHeartbeats 4000000 in
theorem c_Mo_again1 (Γ : GE) (r : Nat) (fa : Int) (tm : Int) (th : Int) (ev : Int64) (rq : Nat) (path : Int) {M : HM} {n : Nat} (pa : 0 ≤ path) (pb : path < 16) (hrn : r + 8 ≤ n) (p0 : M (r) = some (.inr (6, [.ref (r + 1), .int (iI (0)), .int (iI (fa)), .int (iI (tm)), .int (iI (th)), .long (ev), .ref (rq), .ref (r + 7), .int (iI (0))]))) : CT Γ k_Mo_again1 y_Mo_again [.ref (r), .int (iI (path))] M (n) (fun v M' n' => n + 5 = n' ∧ (∀ q, q ≠ r → q ≠ n → q ≠ n + 1 → q ≠ n + 2 → q ≠ n + 3 → q ≠ n + 4 → M' q = M q) ∧ v = some (.int (iI (0))) ∧ M' (r) = some (.inr (6, [.ref (r + 1), .int (iI (0)), .int (iI ((-1))), .int (iI (tm)), .int (iI (0)), .long (ev), .ref (rq), .ref (r + 7), .int (iI (0))])) ∧ M' (n) = some (.inr (7, [.ref (n + 4), .int (iI (0)), .ref (n + 1), .ref (n + 2), .ref (n + 3)])) ∧ M' (n + 1) = some (.inl (Γ.2.2.1 1, 100, .inl (fun _ => iI 0))) ∧ M' (n + 2) = some (.inl (Γ.2.2.1 1, 100, .inl (fun _ => iI 0))) ∧ M' (n + 3) = some (.inl (Γ.2.2.1 1, 100, .inl (fun _ => iI 0))) ∧ M' (n + 4) = some (.inl (Γ.2.2.1 1, 0, .inl (fun _ => iI 0)))) := by
  refine CT.of (by decide) rfl rfl 5 rfl (Nat.le_of_ble_eq_true rfl) rfl ?_
  refine g_aload_n d_Mo_again_0 rfl ?_
  refine g_callV0 (ν := k_Mo_read0) ⟨w_776, w_35, w_779, by decide, by decide, by decide +kernel⟩ w_778 w_17 (c_Mo_read0 Γ (r) (fa) (tm) (th) (ev) (rq) (by omega) p0) d_Mo_again_1 p0 rfl rfl ⟨⟨by decide, by decide⟩, ⟨by decide, by decide⟩⟩ (Nat.le_of_ble_eq_true rfl) (fun v1 M1 n1 hQ1 hn1 hd1 => ?_)
  obtain ⟨rfl, hf1, rfl, hw1_0, hw1_1, hw1_2, hw1_3, hw1_4, hw1_5⟩ := hQ1
  refine g_astore_n d_Mo_again_4 (by decide) rfl ?_
  refine g_aload_n d_Mo_again_5 rfl ?_
  refine g_aload_n d_Mo_again_6 rfl ?_
  refine g_ifnull d_Mo_again_7 ?_
  refine g_iload_n d_Mo_again_10 rfl ?_
  refine g_callS1 (ν := k_Mo_isPath1) ⟨w_789, w_35, w_791, by decide, by decide, by decide +kernel⟩ w_790 (c_Mo_isPath1 Γ (path) (by omega) (by omega) ) d_Mo_again_11 ⟨⟨by decide, by decide⟩, ⟨by decide, by decide⟩⟩ (Nat.le_of_ble_eq_true rfl) (fun v2 M2 n2 hQ2 hn2 hd2 => ?_)
  obtain ⟨rfl, hf2, rfl⟩ := hQ2
  refine g_if_ne (tgt := 21) d_Mo_again_14 (by decide) (fun _ => ?_) (fun h3 => False.elim (by omega))
  refine g_iconst d_Mo_again_21 ?_
  refine g_put fa_Mo_32 d_Mo_again_22 ((hf2 (r) ).trans hw1_0) (Nat.le_of_ble_eq_true rfl) rfl rfl rfl ?_
  refine g_aload_n d_Mo_again_25 rfl ?_
  refine g_get fa_Mo_32 d_Mo_again_26 (hu_same _ _ _) rfl ?_
  refine g_if_eq (tgt := 34) d_Mo_again_29 (by decide) (fun _ => ?_) (fun h4 => False.elim (by omega))
  refine g_aload_n d_Mo_again_34 rfl ?_
  refine g_iload_n d_Mo_again_35 rfl ?_
  refine g_callV1 (ν := k_Mo_theOne0) ⟨w_812, w_35, w_815, by decide, by decide, by decide +kernel⟩ w_814 w_18 (c_Mo_theOne0 Γ (r) ((-1)) (tm) (0) (ev) (rq) (path)  (hu_same _ _ _)) d_Mo_again_36 (hu_same _ _ _) rfl rfl ⟨⟨by decide, by decide⟩, ⟨by decide, by decide⟩⟩ (Nat.le_of_ble_eq_true rfl) (fun v5 M5 n5 hQ5 hn5 hd5 => ?_)
  obtain ⟨rfl, hf5, rfl⟩ := hQ5
  refine g_istore_n d_Mo_again_39 (by decide) rfl ?_
  refine g_iload_n d_Mo_again_40 rfl ?_
  refine g_iconst d_Mo_again_41 ?_
  refine g_icmp_ne (tgt := 47) d_Mo_again_42 (by decide) (fun h6 => False.elim (by omega)) (fun _ => ?_)
  refine g_iconst d_Mo_again_45 ?_
  refine g_zret (ty := .boolean) (by first | rfl | decide) d_Mo_again_46 rfl ?_ (by decide) (by decide)
  exact ⟨rfl, fun q e0 e1 e2 e3 e4 e5 => ((hf5 q ).trans ((hu_ne (by omega)).trans ((hf2 q ).trans ((hf1 q (by omega) (by omega) (by omega) (by omega) (by omega) (by omega)).trans rfl)))), rfl, ((hf5 (r) ).trans (hu_same _ _ _)), ((hf5 (n) ).trans ((hu_ne (by omega)).trans ((hf2 (n) ).trans hw1_1))), ((hf5 (n + 1) ).trans ((hu_ne (by omega)).trans ((hf2 (n + 1) ).trans hw1_2))), ((hf5 (n + 2) ).trans ((hu_ne (by omega)).trans ((hf2 (n + 2) ).trans hw1_3))), ((hf5 (n + 3) ).trans ((hu_ne (by omega)).trans ((hf2 (n + 3) ).trans hw1_4))), ((hf5 (n + 4) ).trans ((hu_ne (by omega)).trans ((hf2 (n + 4) ).trans hw1_5)))⟩
def k_Mo_keep0 : MS := ("VaryStoreModel", b_Mo_keep, 8, (some .boolean), "keep", { frames := 3, cells := 5, slots := 305, locals := 58 }, [])
set_option maxRecDepth 100000 in
set_option maxHeartbeats 4000000 in
theorem c_Mo_keep0 (Γ : GE) (r : Nat) (fa : Int) (tm : Int) (th : Int) (ev : Int64) (rq : Nat) (path : Int) {M : HM} {n : Nat} (pa : -2147483648 ≤ path) (pb : path < 2147483648) (pc9 : ¬ (0 ≤ path ∧ path < 16)) (hrn : r + 8 ≤ n) (p0 : M (r) = some (.inr (6, [.ref (r + 1), .int (iI (0)), .int (iI (fa)), .int (iI (tm)), .int (iI (th)), .long (ev), .ref (rq), .ref (r + 7), .int (iI (0))]))) : CT Γ k_Mo_keep0 y_Mo_keep [.ref (r), .int (iI (path))] M (n) (fun v M' n' => n + 5 = n' ∧ (∀ q, q ≠ r → q ≠ n → q ≠ n + 1 → q ≠ n + 2 → q ≠ n + 3 → q ≠ n + 4 → M' q = M q) ∧ v = some (.int (iI (0))) ∧ M' (r) = some (.inr (6, [.ref (r + 1), .int (iI (0)), .int (iI ((-1))), .int (iI (tm)), .int (iI (1)), .long (ev), .ref (rq), .ref (r + 7), .int (iI (0))])) ∧ M' (n) = some (.inr (7, [.ref (n + 4), .int (iI (0)), .ref (n + 1), .ref (n + 2), .ref (n + 3)])) ∧ M' (n + 1) = some (.inl (Γ.2.2.1 1, 100, .inl (fun _ => iI 0))) ∧ M' (n + 2) = some (.inl (Γ.2.2.1 1, 100, .inl (fun _ => iI 0))) ∧ M' (n + 3) = some (.inl (Γ.2.2.1 1, 100, .inl (fun _ => iI 0))) ∧ M' (n + 4) = some (.inl (Γ.2.2.1 1, 0, .inl (fun _ => iI 0)))) := by
  refine CT.of (by decide) rfl rfl 6 rfl (Nat.le_of_ble_eq_true rfl) rfl ?_
  refine g_aload_n d_Mo_keep_0 rfl ?_
  refine g_callV0 (ν := k_Mo_read0) ⟨w_776, w_35, w_779, by decide, by decide, by decide +kernel⟩ w_778 w_17 (c_Mo_read0 Γ (r) (fa) (tm) (th) (ev) (rq) (by omega) p0) d_Mo_keep_1 p0 rfl rfl ⟨⟨by decide, by decide⟩, ⟨by decide, by decide⟩⟩ (Nat.le_of_ble_eq_true rfl) (fun v1 M1 n1 hQ1 hn1 hd1 => ?_)
  obtain ⟨rfl, hf1, rfl, hw1_0, hw1_1, hw1_2, hw1_3, hw1_4, hw1_5⟩ := hQ1
  refine g_astore_n d_Mo_keep_4 (by decide) rfl ?_
  refine g_aload_n d_Mo_keep_5 rfl ?_
  refine g_aload_n d_Mo_keep_6 rfl ?_
  refine g_ifnull d_Mo_keep_7 ?_
  refine g_iload_n d_Mo_keep_10 rfl ?_
  refine g_callS1 (ν := k_Mo_isPath0) ⟨w_789, w_35, w_791, by decide, by decide, by decide +kernel⟩ w_790 (c_Mo_isPath0 Γ (path) (by omega) (by omega) (by omega) ) d_Mo_keep_11 ⟨⟨by decide, by decide⟩, ⟨by decide, by decide⟩⟩ (Nat.le_of_ble_eq_true rfl) (fun v2 M2 n2 hQ2 hn2 hd2 => ?_)
  obtain ⟨rfl, hf2, rfl⟩ := hQ2
  refine g_if_ne (tgt := 21) d_Mo_keep_14 (by decide) (fun h3 => False.elim (by omega)) (fun _ => ?_)
  refine g_iconst d_Mo_keep_17 ?_
  refine g_goto (tgt := 22) d_Mo_keep_18 (by decide) ?_
  refine g_put fa_Mo_32 d_Mo_keep_22 ((hf2 (r) ).trans hw1_0) (Nat.le_of_ble_eq_true rfl) rfl rfl rfl ?_
  refine g_aload_n d_Mo_keep_25 rfl ?_
  refine g_get fa_Mo_32 d_Mo_keep_26 (hu_same _ _ _) rfl ?_
  refine g_if_eq (tgt := 34) d_Mo_keep_29 (by decide) (fun h4 => False.elim (by omega)) (fun _ => ?_)
  refine g_iconst d_Mo_keep_32 ?_
  refine g_zret (ty := .boolean) (by first | rfl | decide) d_Mo_keep_33 rfl ?_ (by decide) (by decide)
  exact ⟨rfl, fun q e0 e1 e2 e3 e4 e5 => ((hu_ne (by omega)).trans ((hf2 q ).trans ((hf1 q (by omega) (by omega) (by omega) (by omega) (by omega) (by omega)).trans rfl))), rfl, (hu_same _ _ _), ((hu_ne (by omega)).trans ((hf2 (n) ).trans hw1_1)), ((hu_ne (by omega)).trans ((hf2 (n + 1) ).trans hw1_2)), ((hu_ne (by omega)).trans ((hf2 (n + 2) ).trans hw1_3)), ((hu_ne (by omega)).trans ((hf2 (n + 3) ).trans hw1_4)), ((hu_ne (by omega)).trans ((hf2 (n + 4) ).trans hw1_5))⟩
def k_Mo_keep1 : MS := ("VaryStoreModel", b_Mo_keep, 8, (some .boolean), "keep", { frames := 3, cells := 23, slots := 557, locals := 74 }, [])
set_option maxRecDepth 100000 in
set_option maxHeartbeats 4000000 in
theorem c_Mo_keep1 (Γ : GE) (r : Nat) (fa : Int) (tm : Int) (th : Int) (ev : Int64) (rq : Nat) (path : Int) (x0 : Nat) (x1 : Nat) (x2 : Nat) (x3 : Nat) {M : HM} {n : Nat} (pa : 0 ≤ path) (pb : path < 16) (hrn : r + 8 ≤ n) (hrq : rq + 5 ≤ n) (hrq2 : r + 1 ≤ rq) (p0 : M (r) = some (.inr (6, [.ref (r + 1), .int (iI (0)), .int (iI (fa)), .int (iI (tm)), .int (iI (th)), .long (ev), .ref (rq), .ref (r + 7), .int (iI (0))]))) (p1 : M (rq) = some (.inr (7, [.ref (x0), .int (iI (0)), .ref (x1), .ref (x2), .ref (x3)]))) : CT Γ k_Mo_keep1 y_Mo_keep [.ref (r), .int (iI (path))] M (n) (fun v M' n' => n + 23 = n' ∧ (∀ q, q ≠ r → q ≠ n → q ≠ n + 1 → q ≠ n + 2 → q ≠ n + 3 → q ≠ n + 4 → q ≠ n + 5 → q ≠ n + 6 → q ≠ n + 7 → q ≠ n + 8 → q ≠ n + 9 → q ≠ n + 10 → q ≠ n + 11 → q ≠ n + 12 → q ≠ n + 13 → q ≠ n + 14 → q ≠ n + 15 → q ≠ n + 16 → q ≠ n + 17 → q ≠ n + 18 → q ≠ n + 19 → q ≠ n + 20 → q ≠ n + 21 → q ≠ n + 22 → M' q = M q) ∧ v = some (.int (iI (0))) ∧ M' (r) = some (.inr (6, [.ref (r + 1), .int (iI (0)), .int (iI ((-1))), .int (iI (tm)), .int (iI (0)), .long (ev), .ref (rq), .ref (r + 7), .int (iI (0))])) ∧ M' (n) = some (.inr (7, [.ref (n + 4), .int (iI (0)), .ref (n + 1), .ref (n + 2), .ref (n + 3)])) ∧ M' (n + 1) = some (.inl (Γ.2.2.1 1, 100, .inl (fun _ => iI 0))) ∧ M' (n + 2) = some (.inl (Γ.2.2.1 1, 100, .inl (fun _ => iI 0))) ∧ M' (n + 3) = some (.inl (Γ.2.2.1 1, 100, .inl (fun _ => iI 0))) ∧ M' (n + 4) = some (.inl (Γ.2.2.1 1, 0, .inl (fun _ => iI 0))) ∧ M' (n + 5) = some (.inr (8, [.int (iI (path)), .int (iI ((-2))), .int (iI ((-2))), .int (iI (0)), .int (iI (0)), .int (iI (tm)), .int (iI (0)), .int (iI (0)), .null, .ref (n + 8), .ref (n + 9), .long (0)])) ∧ M' (n + 8) = some (.inl (Γ.2.2.1 5, 0, .inr (.inr (.inr (.inr (fun _ => none)))))) ∧ M' (n + 9) = some (.inl (Γ.2.2.1 5, 0, .inr (.inr (.inr (.inr (fun _ => none))))))) := by
  refine CT.of (by decide) rfl rfl 6 rfl (Nat.le_of_ble_eq_true rfl) rfl ?_
  refine g_aload_n d_Mo_keep_0 rfl ?_
  refine g_callV0 (ν := k_Mo_read0) ⟨w_776, w_35, w_779, by decide, by decide, by decide +kernel⟩ w_778 w_17 (c_Mo_read0 Γ (r) (fa) (tm) (th) (ev) (rq) (by omega) p0) d_Mo_keep_1 p0 rfl rfl ⟨⟨by decide, by decide⟩, ⟨by decide, by decide⟩⟩ (Nat.le_of_ble_eq_true rfl) (fun v1 M1 n1 hQ1 hn1 hd1 => ?_)
  obtain ⟨rfl, hf1, rfl, hw1_0, hw1_1, hw1_2, hw1_3, hw1_4, hw1_5⟩ := hQ1
  refine g_astore_n d_Mo_keep_4 (by decide) rfl ?_
  refine g_aload_n d_Mo_keep_5 rfl ?_
  refine g_aload_n d_Mo_keep_6 rfl ?_
  refine g_ifnull d_Mo_keep_7 ?_
  refine g_iload_n d_Mo_keep_10 rfl ?_
  refine g_callS1 (ν := k_Mo_isPath1) ⟨w_789, w_35, w_791, by decide, by decide, by decide +kernel⟩ w_790 (c_Mo_isPath1 Γ (path) (by omega) (by omega) ) d_Mo_keep_11 ⟨⟨by decide, by decide⟩, ⟨by decide, by decide⟩⟩ (Nat.le_of_ble_eq_true rfl) (fun v2 M2 n2 hQ2 hn2 hd2 => ?_)
  obtain ⟨rfl, hf2, rfl⟩ := hQ2
  refine g_if_ne (tgt := 21) d_Mo_keep_14 (by decide) (fun _ => ?_) (fun h3 => False.elim (by omega))
  refine g_iconst d_Mo_keep_21 ?_
  refine g_put fa_Mo_32 d_Mo_keep_22 ((hf2 (r) ).trans hw1_0) (Nat.le_of_ble_eq_true rfl) rfl rfl rfl ?_
  refine g_aload_n d_Mo_keep_25 rfl ?_
  refine g_get fa_Mo_32 d_Mo_keep_26 (hu_same _ _ _) rfl ?_
  refine g_if_eq (tgt := 34) d_Mo_keep_29 (by decide) (fun _ => ?_) (fun h4 => False.elim (by omega))
  refine g_new (ci := 8) t_Mg [.int (iI (0)), .int (iI (0)), .int (iI (0)), .int (iI (0)), .int (iI (0)), .int (iI (0)), .int (iI (0)), .int (iI (0)), .null, .null, .null, .long (0)] rfl uw_Mg to_Mg (fun j hj => by rcases (show j = 0 ∨ j = 1 ∨ j = 2 ∨ j = 3 ∨ j = 4 ∨ j = 5 ∨ j = 6 ∨ j = 7 ∨ j = 8 ∨ j = 9 ∨ j = 10 ∨ j = 11 by omega) with rfl | rfl | rfl | rfl | rfl | rfl | rfl | rfl | rfl | rfl | rfl | rfl <;> rfl) d_Mo_keep_34 w_733 w_870 w_48 (by decide) (by decide) ?_
  refine g_dup d_Mo_keep_37 rfl ?_
  refine g_callIN0 (ν := k_Mg_init) ⟨⟨"VaryStoreModel", w_871⟩, w_48, w_873, by decide, by decide, by decide +kernel⟩ w_872 rfl rfl (c_Mg_init Γ (n + 5)  (hu_same _ _ _)) d_Mo_keep_38 ⟨⟨by decide, by decide⟩, ⟨by decide, by decide⟩⟩ (Nat.le_of_ble_eq_true rfl) (fun v5 M5 n5 hQ5 hn5 hd5 => ?_)
  obtain ⟨rfl, hf5, rfl, hw5_0⟩ := hQ5
  refine g_astore_n d_Mo_keep_41 (by decide) rfl ?_
  refine g_aload_n d_Mo_keep_42 rfl ?_
  refine g_iload_n d_Mo_keep_43 rfl ?_
  refine g_put fa_Mo_188 d_Mo_keep_44 hw5_0 (Nat.le_of_ble_eq_true rfl) rfl rfl rfl ?_
  refine g_aload_n d_Mo_keep_47 rfl ?_
  refine g_callS0 (ν := k_Mo_cacheControl) ⟨w_792, w_35, w_794, by decide, by decide, by decide +kernel⟩ w_793 (c_Mo_cacheControl Γ   ) d_Mo_keep_48 ⟨⟨by decide, by decide⟩, ⟨by decide, by decide⟩⟩ (Nat.le_of_ble_eq_true rfl) (fun v6 M6 n6 hQ6 hn6 hd6 => ?_)
  obtain ⟨rfl, hf6, kn6x0, fn6x1, rfl, hb6_kn6x0_0, hw6_0⟩ := hQ6
  refine g_callS2 (ν := k_Mo_valueOf0) ⟨w_800, w_35, w_802, by decide, by decide, by decide +kernel⟩ w_801 (c_Mo_valueOf0 Γ (n) (n + 6) (n + 4) (n + 1) (n + 2) (n + 3)  ((hf6 (n) (by omega)).trans ((hu_ne (by omega)).trans ((hf5 (n) (by omega)).trans ((hu_ne (by omega)).trans ((hu_ne (by omega)).trans ((hf2 (n) ).trans hw1_1))))))) d_Mo_keep_51 ⟨⟨by decide, by decide⟩, ⟨by decide, by decide⟩⟩ (Nat.le_of_ble_eq_true rfl) (fun v7 M7 n7 hQ7 hn7 hd7 => ?_)
  obtain ⟨rfl, hf7, rfl⟩ := hQ7
  refine g_astoreN d_Mo_keep_54 (by decide) rfl ?_
  refine g_aload_n d_Mo_keep_56 rfl ?_
  refine g_ldcL w_914 d_Mo_keep_57 ?_
  refine g_lconst d_Mo_keep_60 rfl ?_
  refine g_callS2 (ν := k_Mo_name) ⟨w_797, w_35, w_799, by decide, by decide, by decide +kernel⟩ w_798 (c_Mo_name Γ (1986097785) (Int64.ofNat 0)  ) d_Mo_keep_61 ⟨⟨by decide, by decide⟩, ⟨by decide, by decide⟩⟩ (Nat.le_of_ble_eq_true rfl) (fun v8 M8 n8 hQ8 hn8 hd8 => ?_)
  obtain ⟨rfl, hf8, kn8x0, fn8x1, rfl, hb8_kn8x0_0, hw8_0⟩ := hQ8
  refine g_callS2 (ν := k_Mo_valueOf0) ⟨w_800, w_35, w_802, by decide, by decide, by decide +kernel⟩ w_801 (c_Mo_valueOf0 Γ (n) (n + 7) (n + 4) (n + 1) (n + 2) (n + 3)  ((hf8 (n) (by omega)).trans ((hf7 (n) ).trans ((hf6 (n) (by omega)).trans ((hu_ne (by omega)).trans ((hf5 (n) (by omega)).trans ((hu_ne (by omega)).trans ((hu_ne (by omega)).trans ((hf2 (n) ).trans hw1_1))))))))) d_Mo_keep_64 ⟨⟨by decide, by decide⟩, ⟨by decide, by decide⟩⟩ (Nat.le_of_ble_eq_true rfl) (fun v9 M9 n9 hQ9 hn9 hd9 => ?_)
  obtain ⟨rfl, hf9, rfl⟩ := hQ9
  refine g_astoreN d_Mo_keep_67 (by decide) rfl ?_
  refine g_aload_n d_Mo_keep_69 rfl ?_
  refine g_aloadN d_Mo_keep_70 rfl ?_
  refine g_ifnonnullN d_Mo_keep_72 ?_
  refine g_iconst d_Mo_keep_75 ?_
  refine g_anewA (k := 0) d_Mo_keep_76 w_822 w_823 (by decide) (by decide) (by decide) ?_
  refine g_goto (tgt := 90) d_Mo_keep_79 (by decide) ?_
  refine g_put fa_Mo_191 d_Mo_keep_90 ((hu_ne (by omega)).trans ((hf9 (n + 5) ).trans ((hf8 (n + 5) (by omega)).trans ((hf7 (n + 5) ).trans ((hf6 (n + 5) (by omega)).trans (hu_same _ _ _)))))) (Nat.le_of_ble_eq_true rfl) rfl rfl rfl ?_
  refine g_aload_n d_Mo_keep_93 rfl ?_
  refine g_aload_n d_Mo_keep_94 rfl ?_
  refine g_get fa_Mo_191 d_Mo_keep_95 (hu_same _ _ _) rfl ?_
  refine g_alenN 5 rfl d_Mo_keep_98 ((hu_ne (by omega)).trans (hu_same _ _ _)) ?_
  refine g_anewA (k := 0) d_Mo_keep_99 w_822 w_823 (by decide) (by decide) (by decide) ?_
  refine g_put fa_Mo_195 d_Mo_keep_102 ((hu_ne (by omega)).trans (hu_same _ _ _)) (Nat.le_of_ble_eq_true rfl) rfl rfl rfl ?_
  refine g_iconst d_Mo_keep_105 ?_
  refine g_istore d_Mo_keep_106 (by decide) rfl ?_
  refine g_iload d_Mo_keep_108 rfl ?_
  refine g_aload_n d_Mo_keep_110 rfl ?_
  refine g_get fa_Mo_191 d_Mo_keep_111 (hu_same _ _ _) rfl ?_
  refine g_alenN 5 rfl d_Mo_keep_114 ((hu_ne (by omega)).trans ((hu_ne (by omega)).trans ((hu_ne (by omega)).trans (hu_same _ _ _)))) ?_
  refine g_icmp_ge (tgt := 145) d_Mo_keep_115 (by decide) (fun _ => ?_) (fun h10 => False.elim (by omega))
  refine g_aload_n d_Mo_keep_145 rfl ?_
  refine g_aload_n d_Mo_keep_146 rfl ?_
  refine g_callS1 (ν := k_Mo_etagOf0) ⟨w_915, w_35, w_917, by decide, by decide, by decide +kernel⟩ w_916 (c_Mo_etagOf0 Γ (n) (n + 4) (n + 1) (n + 2) (n + 3) (by omega) ((hu_ne (by omega)).trans ((hu_ne (by omega)).trans ((hu_ne (by omega)).trans ((hu_ne (by omega)).trans ((hf9 (n) ).trans ((hf8 (n) (by omega)).trans ((hf7 (n) ).trans ((hf6 (n) (by omega)).trans ((hu_ne (by omega)).trans ((hf5 (n) (by omega)).trans ((hu_ne (by omega)).trans ((hu_ne (by omega)).trans ((hf2 (n) ).trans hw1_1)))))))))))))) d_Mo_keep_147 ⟨⟨by decide, by decide⟩, ⟨by decide, by decide⟩⟩ (Nat.le_of_ble_eq_true rfl) (fun v11 M11 n11 hQ11 hn11 hd11 => ?_)
  obtain ⟨rfl, hf11, rfl⟩ := hQ11
  refine g_put fa_Mo_242 d_Mo_keep_150 ((hf11 (n + 5) (by omega)).trans (hu_same _ _ _)) (Nat.le_of_ble_eq_true rfl) rfl rfl rfl ?_
  refine g_aload_n d_Mo_keep_153 rfl ?_
  refine g_aload_n d_Mo_keep_154 rfl ?_
  refine g_aloadN d_Mo_keep_155 rfl ?_
  refine g_callV2 (ν := k_Mo_setWords0) ⟨w_919, w_35, w_922, by decide, by decide, by decide +kernel⟩ w_921 w_23 (c_Mo_setWords0 Γ (r) (n + 5) (path) ((-2)) ((-2)) (0) (0) (0) (0) (0) (0) (n + 8) (n + 9) (by omega) (hu_same _ _ _)) d_Mo_keep_157 ((hu_ne (by omega)).trans ((hf11 (r) (by omega)).trans ((hu_ne (by omega)).trans ((hu_ne (by omega)).trans ((hu_ne (by omega)).trans ((hu_ne (by omega)).trans ((hf9 (r) ).trans ((hf8 (r) (by omega)).trans ((hf7 (r) ).trans ((hf6 (r) (by omega)).trans ((hu_ne (by omega)).trans ((hf5 (r) (by omega)).trans ((hu_ne (by omega)).trans (hu_same _ _ _)))))))))))))) rfl rfl ⟨⟨by decide, by decide⟩, ⟨by decide, by decide⟩⟩ (Nat.le_of_ble_eq_true rfl) (fun v12 M12 n12 hQ12 hn12 hd12 => ?_)
  obtain ⟨rfl, hf12, rfl, hw12_0⟩ := hQ12
  refine g_aload_n d_Mo_keep_160 rfl ?_
  refine g_aload_n d_Mo_keep_161 rfl ?_
  refine g_aload_n d_Mo_keep_162 rfl ?_
  refine g_callV2 (ν := k_Mo_setTimes0) ⟨w_928, w_35, w_931, by decide, by decide, by decide +kernel⟩ w_930 w_24 (c_Mo_setTimes0 Γ (r) ((-1)) (tm) (0) (ev) (rq) (n + 5) (n) (path) (0) (0) (0) (0) (0) (0) (n + 8) (n + 9) (n + 4) (n + 1) (n + 2) (n + 3) (by omega) (by omega) (by omega) (by omega) (by omega) ((hf12 (r) (by omega) (by omega) (by omega) (by omega) (by omega) (by omega)).trans ((hu_ne (by omega)).trans ((hf11 (r) (by omega)).trans ((hu_ne (by omega)).trans ((hu_ne (by omega)).trans ((hu_ne (by omega)).trans ((hu_ne (by omega)).trans ((hf9 (r) ).trans ((hf8 (r) (by omega)).trans ((hf7 (r) ).trans ((hf6 (r) (by omega)).trans ((hu_ne (by omega)).trans ((hf5 (r) (by omega)).trans ((hu_ne (by omega)).trans (hu_same _ _ _))))))))))))))) hw12_0 ((hf12 (n) (by omega) (by omega) (by omega) (by omega) (by omega) (by omega)).trans ((hu_ne (by omega)).trans ((hf11 (n) (by omega)).trans ((hu_ne (by omega)).trans ((hu_ne (by omega)).trans ((hu_ne (by omega)).trans ((hu_ne (by omega)).trans ((hf9 (n) ).trans ((hf8 (n) (by omega)).trans ((hf7 (n) ).trans ((hf6 (n) (by omega)).trans ((hu_ne (by omega)).trans ((hf5 (n) (by omega)).trans ((hu_ne (by omega)).trans ((hu_ne (by omega)).trans ((hf2 (n) ).trans hw1_1))))))))))))))))) d_Mo_keep_163 ((hf12 (r) (by omega) (by omega) (by omega) (by omega) (by omega) (by omega)).trans ((hu_ne (by omega)).trans ((hf11 (r) (by omega)).trans ((hu_ne (by omega)).trans ((hu_ne (by omega)).trans ((hu_ne (by omega)).trans ((hu_ne (by omega)).trans ((hf9 (r) ).trans ((hf8 (r) (by omega)).trans ((hf7 (r) ).trans ((hf6 (r) (by omega)).trans ((hu_ne (by omega)).trans ((hf5 (r) (by omega)).trans ((hu_ne (by omega)).trans (hu_same _ _ _))))))))))))))) rfl rfl ⟨⟨by decide, by decide⟩, ⟨by decide, by decide⟩⟩ (Nat.le_of_ble_eq_true rfl) (fun v13 M13 n13 hQ13 hn13 hd13 => ?_)
  obtain ⟨rfl, hf13, rfl, hw13_0⟩ := hQ13
  refine g_aload_n d_Mo_keep_166 rfl ?_
  refine g_aload_n d_Mo_keep_167 rfl ?_
  refine g_callV1 (ν := k_Mo_placeOf0) ⟨w_938, w_35, w_941, by decide, by decide, by decide +kernel⟩ w_940 w_25 (c_Mo_placeOf0 Γ (r) ((-1)) (tm) (0) (ev) (rq) (n + 5)  ((hf13 (r) (by omega) (by omega) (by omega) (by omega)).trans ((hf12 (r) (by omega) (by omega) (by omega) (by omega) (by omega) (by omega)).trans ((hu_ne (by omega)).trans ((hf11 (r) (by omega)).trans ((hu_ne (by omega)).trans ((hu_ne (by omega)).trans ((hu_ne (by omega)).trans ((hu_ne (by omega)).trans ((hf9 (r) ).trans ((hf8 (r) (by omega)).trans ((hf7 (r) ).trans ((hf6 (r) (by omega)).trans ((hu_ne (by omega)).trans ((hf5 (r) (by omega)).trans ((hu_ne (by omega)).trans (hu_same _ _ _))))))))))))))))) d_Mo_keep_168 ((hf13 (r) (by omega) (by omega) (by omega) (by omega)).trans ((hf12 (r) (by omega) (by omega) (by omega) (by omega) (by omega) (by omega)).trans ((hu_ne (by omega)).trans ((hf11 (r) (by omega)).trans ((hu_ne (by omega)).trans ((hu_ne (by omega)).trans ((hu_ne (by omega)).trans ((hu_ne (by omega)).trans ((hf9 (r) ).trans ((hf8 (r) (by omega)).trans ((hf7 (r) ).trans ((hf6 (r) (by omega)).trans ((hu_ne (by omega)).trans ((hf5 (r) (by omega)).trans ((hu_ne (by omega)).trans (hu_same _ _ _)))))))))))))))) rfl rfl ⟨⟨by decide, by decide⟩, ⟨by decide, by decide⟩⟩ (Nat.le_of_ble_eq_true rfl) (fun v14 M14 n14 hQ14 hn14 hd14 => ?_)
  obtain ⟨rfl, hf14, rfl⟩ := hQ14
  refine g_istore d_Mo_keep_171 (by decide) rfl ?_
  refine g_iload d_Mo_keep_173 rfl ?_
  refine g_iconst d_Mo_keep_175 ?_
  refine g_icmp_eq (tgt := 185) d_Mo_keep_176 (by decide) (fun _ => ?_) (fun h15 => False.elim (by omega))
  refine g_aloadN d_Mo_keep_185 rfl ?_
  refine g_ldcL w_946 d_Mo_keep_187 ?_
  refine g_lconst d_Mo_keep_190 rfl ?_
  refine g_callS3 (ν := k_Mo_has0) ⟨w_835, w_35, w_837, by decide, by decide, by decide +kernel⟩ w_836 (c_Mo_has0 Γ (7957629040484905573) (Int64.ofNat 0)  ) d_Mo_keep_191 ⟨⟨by decide, by decide⟩, ⟨by decide, by decide⟩⟩ (Nat.le_of_ble_eq_true rfl) (fun v16 M16 n16 hQ16 hn16 hd16 => ?_)
  obtain ⟨rfl, hf16, rfl⟩ := hQ16
  refine g_if_ne (tgt := 257) d_Mo_keep_194 (by decide) (fun h17 => False.elim (by omega)) (fun _ => ?_)
  refine g_aloadN d_Mo_keep_197 rfl ?_
  refine g_ldcL w_947 d_Mo_keep_199 ?_
  refine g_lconst d_Mo_keep_202 rfl ?_
  refine g_callS3 (ν := k_Mo_has0) ⟨w_835, w_35, w_837, by decide, by decide, by decide +kernel⟩ w_836 (c_Mo_has0 Γ (31650994674824293) (Int64.ofNat 0)  ) d_Mo_keep_203 ⟨⟨by decide, by decide⟩, ⟨by decide, by decide⟩⟩ (Nat.le_of_ble_eq_true rfl) (fun v18 M18 n18 hQ18 hn18 hd18 => ?_)
  obtain ⟨rfl, hf18, rfl⟩ := hQ18
  refine g_if_ne (tgt := 257) d_Mo_keep_206 (by decide) (fun h19 => False.elim (by omega)) (fun _ => ?_)
  refine g_aload_n d_Mo_keep_209 rfl ?_
  refine g_get fa_Mo_191 d_Mo_keep_210 ((hf18 (n + 5) (by omega)).trans ((hf16 (n + 5) (by omega)).trans ((hf14 (n + 5) ).trans hw13_0))) rfl ?_
  refine g_callS1 (ν := k_Mo_hasStar0) ⟨w_948, w_35, w_950, by decide, by decide, by decide +kernel⟩ w_949 (c_Mo_hasStar0 Γ (n + 8)  ((hf18 ((n + 8)) (by omega)).trans ((hf16 ((n + 8)) (by omega)).trans ((hf14 ((n + 8)) ).trans ((hf13 ((n + 8)) (by omega) (by omega) (by omega) (by omega)).trans ((hf12 ((n + 8)) (by omega) (by omega) (by omega) (by omega) (by omega) (by omega)).trans ((hu_ne (by omega)).trans ((hf11 ((n + 8)) (by omega)).trans ((hu_ne (by omega)).trans ((hu_ne (by omega)).trans ((hu_ne (by omega)).trans (hu_same _ _ _)))))))))))) d_Mo_keep_213 ⟨⟨by decide, by decide⟩, ⟨by decide, by decide⟩⟩ (Nat.le_of_ble_eq_true rfl) (fun v20 M20 n20 hQ20 hn20 hd20 => ?_)
  obtain ⟨rfl, hf20, rfl⟩ := hQ20
  refine g_if_ne (tgt := 257) d_Mo_keep_216 (by decide) (fun h21 => False.elim (by omega)) (fun _ => ?_)
  refine g_aload_n d_Mo_keep_219 rfl ?_
  refine g_get fa_Mo_22 d_Mo_keep_220 ((hf20 (r) ).trans ((hf18 (r) (by omega)).trans ((hf16 (r) (by omega)).trans ((hf14 (r) ).trans ((hf13 (r) (by omega) (by omega) (by omega) (by omega)).trans ((hf12 (r) (by omega) (by omega) (by omega) (by omega) (by omega) (by omega)).trans ((hu_ne (by omega)).trans ((hf11 (r) (by omega)).trans ((hu_ne (by omega)).trans ((hu_ne (by omega)).trans ((hu_ne (by omega)).trans ((hu_ne (by omega)).trans ((hf9 (r) ).trans ((hf8 (r) (by omega)).trans ((hf7 (r) ).trans ((hf6 (r) (by omega)).trans ((hu_ne (by omega)).trans ((hf5 (r) (by omega)).trans ((hu_ne (by omega)).trans (hu_same _ _ _)))))))))))))))))))) rfl ?_
  refine g_callS0 (ν := k_Mo_cacheControl) ⟨w_792, w_35, w_794, by decide, by decide, by decide +kernel⟩ w_793 (c_Mo_cacheControl Γ   ) d_Mo_keep_223 ⟨⟨by decide, by decide⟩, ⟨by decide, by decide⟩⟩ (Nat.le_of_ble_eq_true rfl) (fun v22 M22 n22 hQ22 hn22 hd22 => ?_)
  obtain ⟨rfl, hf22, kn22x0, fn22x1, rfl, hb22_kn22x0_0, hw22_0⟩ := hQ22
  refine g_callS2 (ν := k_Mo_valueOf0) ⟨w_800, w_35, w_802, by decide, by decide, by decide +kernel⟩ w_801 (c_Mo_valueOf0 Γ (rq) (n + 21) (x0) (x1) (x2) (x3)  ((hf22 (rq) (by omega)).trans ((hf20 (rq) ).trans ((hf18 (rq) (by omega)).trans ((hf16 (rq) (by omega)).trans ((hf14 (rq) ).trans ((hf13 (rq) (by omega) (by omega) (by omega) (by omega)).trans ((hf12 (rq) (by omega) (by omega) (by omega) (by omega) (by omega) (by omega)).trans ((hu_ne (by omega)).trans ((hf11 (rq) (by omega)).trans ((hu_ne (by omega)).trans ((hu_ne (by omega)).trans ((hu_ne (by omega)).trans ((hu_ne (by omega)).trans ((hf9 (rq) ).trans ((hf8 (rq) (by omega)).trans ((hf7 (rq) ).trans ((hf6 (rq) (by omega)).trans ((hu_ne (by omega)).trans ((hf5 (rq) (by omega)).trans ((hu_ne (by omega)).trans ((hu_ne (by omega)).trans ((hf2 (rq) ).trans ((hf1 (rq) (by omega) (by omega) (by omega) (by omega) (by omega) (by omega)).trans p1)))))))))))))))))))))))) d_Mo_keep_226 ⟨⟨by decide, by decide⟩, ⟨by decide, by decide⟩⟩ (Nat.le_of_ble_eq_true rfl) (fun v23 M23 n23 hQ23 hn23 hd23 => ?_)
  obtain ⟨rfl, hf23, rfl⟩ := hQ23
  refine g_ldcL w_946 d_Mo_keep_229 ?_
  refine g_lconst d_Mo_keep_232 rfl ?_
  refine g_callS3 (ν := k_Mo_has0) ⟨w_835, w_35, w_837, by decide, by decide, by decide +kernel⟩ w_836 (c_Mo_has0 Γ (7957629040484905573) (Int64.ofNat 0)  ) d_Mo_keep_233 ⟨⟨by decide, by decide⟩, ⟨by decide, by decide⟩⟩ (Nat.le_of_ble_eq_true rfl) (fun v24 M24 n24 hQ24 hn24 hd24 => ?_)
  obtain ⟨rfl, hf24, rfl⟩ := hQ24
  refine g_if_ne (tgt := 257) d_Mo_keep_236 (by decide) (fun h25 => False.elim (by omega)) (fun _ => ?_)
  refine g_aload_n d_Mo_keep_239 rfl ?_
  refine g_get fa_Mo_158 d_Mo_keep_240 ((hf24 (n + 5) (by omega)).trans ((hf23 (n + 5) ).trans ((hf22 (n + 5) (by omega)).trans ((hf20 (n + 5) ).trans ((hf18 (n + 5) (by omega)).trans ((hf16 (n + 5) (by omega)).trans ((hf14 (n + 5) ).trans hw13_0))))))) rfl ?_
  refine g_if_gt (tgt := 253) d_Mo_keep_243 (by decide) (fun h26 => False.elim (by omega)) (fun _ => ?_)
  refine g_aload_n d_Mo_keep_246 rfl ?_
  refine g_get fa_Mo_242 d_Mo_keep_247 ((hf24 (n + 5) (by omega)).trans ((hf23 (n + 5) ).trans ((hf22 (n + 5) (by omega)).trans ((hf20 (n + 5) ).trans ((hf18 (n + 5) (by omega)).trans ((hf16 (n + 5) (by omega)).trans ((hf14 (n + 5) ).trans hw13_0))))))) rfl ?_
  refine g_ifnullN (tgt := 257) d_Mo_keep_250 (by decide) ?_
  refine g_iconst d_Mo_keep_257 ?_
  refine g_istore d_Mo_keep_258 (by decide) rfl ?_
  refine g_iload d_Mo_keep_260 rfl ?_
  refine g_if_ne (tgt := 267) d_Mo_keep_262 (by decide) (fun h27 => False.elim (by omega)) (fun _ => ?_)
  refine g_iconst d_Mo_keep_265 ?_
  refine g_zret (ty := .boolean) (by first | rfl | decide) d_Mo_keep_266 rfl ?_ (by decide) (by decide)
  exact ⟨rfl, fun q e0 e1 e2 e3 e4 e5 e6 e7 e8 e9 e10 e11 e12 e13 e14 e15 e16 e17 e18 e19 e20 e21 e22 e23 => ((hf24 q (by omega)).trans ((hf23 q ).trans ((hf22 q (by omega)).trans ((hf20 q ).trans ((hf18 q (by omega)).trans ((hf16 q (by omega)).trans ((hf14 q ).trans ((hf13 q (by omega) (by omega) (by omega) (by omega)).trans ((hf12 q (by omega) (by omega) (by omega) (by omega) (by omega) (by omega)).trans ((hu_ne (by omega)).trans ((hf11 q (by omega)).trans ((hu_ne (by omega)).trans ((hu_ne (by omega)).trans ((hu_ne (by omega)).trans ((hu_ne (by omega)).trans ((hf9 q ).trans ((hf8 q (by omega)).trans ((hf7 q ).trans ((hf6 q (by omega)).trans ((hu_ne (by omega)).trans ((hf5 q (by omega)).trans ((hu_ne (by omega)).trans ((hu_ne (by omega)).trans ((hf2 q ).trans ((hf1 q (by omega) (by omega) (by omega) (by omega) (by omega) (by omega)).trans rfl))))))))))))))))))))))))), rfl, ((hf24 (r) (by omega)).trans ((hf23 (r) ).trans ((hf22 (r) (by omega)).trans ((hf20 (r) ).trans ((hf18 (r) (by omega)).trans ((hf16 (r) (by omega)).trans ((hf14 (r) ).trans ((hf13 (r) (by omega) (by omega) (by omega) (by omega)).trans ((hf12 (r) (by omega) (by omega) (by omega) (by omega) (by omega) (by omega)).trans ((hu_ne (by omega)).trans ((hf11 (r) (by omega)).trans ((hu_ne (by omega)).trans ((hu_ne (by omega)).trans ((hu_ne (by omega)).trans ((hu_ne (by omega)).trans ((hf9 (r) ).trans ((hf8 (r) (by omega)).trans ((hf7 (r) ).trans ((hf6 (r) (by omega)).trans ((hu_ne (by omega)).trans ((hf5 (r) (by omega)).trans ((hu_ne (by omega)).trans (hu_same _ _ _))))))))))))))))))))))), ((hf24 (n) (by omega)).trans ((hf23 (n) ).trans ((hf22 (n) (by omega)).trans ((hf20 (n) ).trans ((hf18 (n) (by omega)).trans ((hf16 (n) (by omega)).trans ((hf14 (n) ).trans ((hf13 (n) (by omega) (by omega) (by omega) (by omega)).trans ((hf12 (n) (by omega) (by omega) (by omega) (by omega) (by omega) (by omega)).trans ((hu_ne (by omega)).trans ((hf11 (n) (by omega)).trans ((hu_ne (by omega)).trans ((hu_ne (by omega)).trans ((hu_ne (by omega)).trans ((hu_ne (by omega)).trans ((hf9 (n) ).trans ((hf8 (n) (by omega)).trans ((hf7 (n) ).trans ((hf6 (n) (by omega)).trans ((hu_ne (by omega)).trans ((hf5 (n) (by omega)).trans ((hu_ne (by omega)).trans ((hu_ne (by omega)).trans ((hf2 (n) ).trans hw1_1)))))))))))))))))))))))), ((hf24 (n + 1) (by omega)).trans ((hf23 (n + 1) ).trans ((hf22 (n + 1) (by omega)).trans ((hf20 (n + 1) ).trans ((hf18 (n + 1) (by omega)).trans ((hf16 (n + 1) (by omega)).trans ((hf14 (n + 1) ).trans ((hf13 (n + 1) (by omega) (by omega) (by omega) (by omega)).trans ((hf12 (n + 1) (by omega) (by omega) (by omega) (by omega) (by omega) (by omega)).trans ((hu_ne (by omega)).trans ((hf11 (n + 1) (by omega)).trans ((hu_ne (by omega)).trans ((hu_ne (by omega)).trans ((hu_ne (by omega)).trans ((hu_ne (by omega)).trans ((hf9 (n + 1) ).trans ((hf8 (n + 1) (by omega)).trans ((hf7 (n + 1) ).trans ((hf6 (n + 1) (by omega)).trans ((hu_ne (by omega)).trans ((hf5 (n + 1) (by omega)).trans ((hu_ne (by omega)).trans ((hu_ne (by omega)).trans ((hf2 (n + 1) ).trans hw1_2)))))))))))))))))))))))), ((hf24 (n + 2) (by omega)).trans ((hf23 (n + 2) ).trans ((hf22 (n + 2) (by omega)).trans ((hf20 (n + 2) ).trans ((hf18 (n + 2) (by omega)).trans ((hf16 (n + 2) (by omega)).trans ((hf14 (n + 2) ).trans ((hf13 (n + 2) (by omega) (by omega) (by omega) (by omega)).trans ((hf12 (n + 2) (by omega) (by omega) (by omega) (by omega) (by omega) (by omega)).trans ((hu_ne (by omega)).trans ((hf11 (n + 2) (by omega)).trans ((hu_ne (by omega)).trans ((hu_ne (by omega)).trans ((hu_ne (by omega)).trans ((hu_ne (by omega)).trans ((hf9 (n + 2) ).trans ((hf8 (n + 2) (by omega)).trans ((hf7 (n + 2) ).trans ((hf6 (n + 2) (by omega)).trans ((hu_ne (by omega)).trans ((hf5 (n + 2) (by omega)).trans ((hu_ne (by omega)).trans ((hu_ne (by omega)).trans ((hf2 (n + 2) ).trans hw1_3)))))))))))))))))))))))), ((hf24 (n + 3) (by omega)).trans ((hf23 (n + 3) ).trans ((hf22 (n + 3) (by omega)).trans ((hf20 (n + 3) ).trans ((hf18 (n + 3) (by omega)).trans ((hf16 (n + 3) (by omega)).trans ((hf14 (n + 3) ).trans ((hf13 (n + 3) (by omega) (by omega) (by omega) (by omega)).trans ((hf12 (n + 3) (by omega) (by omega) (by omega) (by omega) (by omega) (by omega)).trans ((hu_ne (by omega)).trans ((hf11 (n + 3) (by omega)).trans ((hu_ne (by omega)).trans ((hu_ne (by omega)).trans ((hu_ne (by omega)).trans ((hu_ne (by omega)).trans ((hf9 (n + 3) ).trans ((hf8 (n + 3) (by omega)).trans ((hf7 (n + 3) ).trans ((hf6 (n + 3) (by omega)).trans ((hu_ne (by omega)).trans ((hf5 (n + 3) (by omega)).trans ((hu_ne (by omega)).trans ((hu_ne (by omega)).trans ((hf2 (n + 3) ).trans hw1_4)))))))))))))))))))))))), ((hf24 (n + 4) (by omega)).trans ((hf23 (n + 4) ).trans ((hf22 (n + 4) (by omega)).trans ((hf20 (n + 4) ).trans ((hf18 (n + 4) (by omega)).trans ((hf16 (n + 4) (by omega)).trans ((hf14 (n + 4) ).trans ((hf13 (n + 4) (by omega) (by omega) (by omega) (by omega)).trans ((hf12 (n + 4) (by omega) (by omega) (by omega) (by omega) (by omega) (by omega)).trans ((hu_ne (by omega)).trans ((hf11 (n + 4) (by omega)).trans ((hu_ne (by omega)).trans ((hu_ne (by omega)).trans ((hu_ne (by omega)).trans ((hu_ne (by omega)).trans ((hf9 (n + 4) ).trans ((hf8 (n + 4) (by omega)).trans ((hf7 (n + 4) ).trans ((hf6 (n + 4) (by omega)).trans ((hu_ne (by omega)).trans ((hf5 (n + 4) (by omega)).trans ((hu_ne (by omega)).trans ((hu_ne (by omega)).trans ((hf2 (n + 4) ).trans hw1_5)))))))))))))))))))))))), ((hf24 (n + 5) (by omega)).trans ((hf23 (n + 5) ).trans ((hf22 (n + 5) (by omega)).trans ((hf20 (n + 5) ).trans ((hf18 (n + 5) (by omega)).trans ((hf16 (n + 5) (by omega)).trans ((hf14 (n + 5) ).trans hw13_0))))))), ((hf24 (n + 8) (by omega)).trans ((hf23 (n + 8) ).trans ((hf22 (n + 8) (by omega)).trans ((hf20 (n + 8) ).trans ((hf18 (n + 8) (by omega)).trans ((hf16 (n + 8) (by omega)).trans ((hf14 (n + 8) ).trans ((hf13 (n + 8) (by omega) (by omega) (by omega) (by omega)).trans ((hf12 (n + 8) (by omega) (by omega) (by omega) (by omega) (by omega) (by omega)).trans ((hu_ne (by omega)).trans ((hf11 (n + 8) (by omega)).trans ((hu_ne (by omega)).trans ((hu_ne (by omega)).trans ((hu_ne (by omega)).trans (hu_same _ _ _))))))))))))))), ((hf24 (n + 9) (by omega)).trans ((hf23 (n + 9) ).trans ((hf22 (n + 9) (by omega)).trans ((hf20 (n + 9) ).trans ((hf18 (n + 9) (by omega)).trans ((hf16 (n + 9) (by omega)).trans ((hf14 (n + 9) ).trans ((hf13 (n + 9) (by omega) (by omega) (by omega) (by omega)).trans ((hf12 (n + 9) (by omega) (by omega) (by omega) (by omega) (by omega) (by omega)).trans ((hu_ne (by omega)).trans ((hf11 (n + 9) (by omega)).trans ((hu_ne (by omega)).trans (hu_same _ _ _)))))))))))))⟩
