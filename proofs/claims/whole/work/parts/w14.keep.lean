theorem d_Te_copy_0 : decode b_Te_copy 0 = .ok (.aload_n 0, 1) := by decide +kernel
theorem d_Te_copy_1 : decode b_Te_copy 1 = .ok (.getfield 12, 3) := by decide +kernel
theorem d_Te_copy_4 : decode b_Te_copy 4 = .ok (.aload_n 1, 1) := by decide +kernel
theorem d_Te_copy_5 : decode b_Te_copy 5 = .ok (.getfield 12, 3) := by decide +kernel
theorem d_Te_copy_8 : decode b_Te_copy 8 = .ok (.invokevirtual 32, 3) := by decide +kernel
theorem d_Te_copy_11 : decode b_Te_copy 11 = .ok (.aload_n 0, 1) := by decide +kernel
theorem d_Te_copy_12 : decode b_Te_copy 12 = .ok (.aload_n 1, 1) := by decide +kernel
theorem d_Te_copy_13 : decode b_Te_copy 13 = .ok (.getfield 28, 3) := by decide +kernel
theorem d_Te_copy_16 : decode b_Te_copy 16 = .ok (.bipush 100, 2) := by decide +kernel
theorem d_Te_copy_18 : decode b_Te_copy 18 = .ok (.invokestatic 36, 3) := by decide +kernel
theorem d_Te_copy_21 : decode b_Te_copy 21 = .ok (.putfield 28, 3) := by decide +kernel
theorem d_Te_copy_24 : decode b_Te_copy 24 = .ok (.aload_n 1, 1) := by decide +kernel
theorem d_Te_copy_25 : decode b_Te_copy 25 = .ok (.getfield 18, 3) := by decide +kernel
theorem d_Te_copy_28 : decode b_Te_copy 28 = .ok (.iconst 0, 1) := by decide +kernel
theorem d_Te_copy_29 : decode b_Te_copy 29 = .ok (.aload_n 0, 1) := by decide +kernel
theorem d_Te_copy_30 : decode b_Te_copy 30 = .ok (.getfield 18, 3) := by decide +kernel
theorem d_Te_copy_33 : decode b_Te_copy 33 = .ok (.iconst 0, 1) := by decide +kernel
theorem d_Te_copy_34 : decode b_Te_copy 34 = .ok (.aload_n 0, 1) := by decide +kernel
theorem d_Te_copy_35 : decode b_Te_copy 35 = .ok (.getfield 28, 3) := by decide +kernel
theorem d_Te_copy_38 : decode b_Te_copy 38 = .ok (.invokestatic 42, 3) := by decide +kernel
theorem d_Te_copy_41 : decode b_Te_copy 41 = .ok (.aload_n 1, 1) := by decide +kernel
theorem d_Te_copy_42 : decode b_Te_copy 42 = .ok (.getfield 22, 3) := by decide +kernel
theorem d_Te_copy_45 : decode b_Te_copy 45 = .ok (.iconst 0, 1) := by decide +kernel
theorem d_Te_copy_46 : decode b_Te_copy 46 = .ok (.aload_n 0, 1) := by decide +kernel
theorem d_Te_copy_47 : decode b_Te_copy 47 = .ok (.getfield 22, 3) := by decide +kernel
theorem d_Te_copy_50 : decode b_Te_copy 50 = .ok (.iconst 0, 1) := by decide +kernel
theorem d_Te_copy_51 : decode b_Te_copy 51 = .ok (.aload_n 0, 1) := by decide +kernel
theorem d_Te_copy_52 : decode b_Te_copy 52 = .ok (.getfield 28, 3) := by decide +kernel
theorem d_Te_copy_55 : decode b_Te_copy 55 = .ok (.invokestatic 42, 3) := by decide +kernel
theorem d_Te_copy_58 : decode b_Te_copy 58 = .ok (.aload_n 1, 1) := by decide +kernel
theorem d_Te_copy_59 : decode b_Te_copy 59 = .ok (.getfield 25, 3) := by decide +kernel
theorem d_Te_copy_62 : decode b_Te_copy 62 = .ok (.iconst 0, 1) := by decide +kernel
theorem d_Te_copy_63 : decode b_Te_copy 63 = .ok (.aload_n 0, 1) := by decide +kernel
theorem d_Te_copy_64 : decode b_Te_copy 64 = .ok (.getfield 25, 3) := by decide +kernel
theorem d_Te_copy_67 : decode b_Te_copy 67 = .ok (.iconst 0, 1) := by decide +kernel
theorem d_Te_copy_68 : decode b_Te_copy 68 = .ok (.aload_n 0, 1) := by decide +kernel
theorem d_Te_copy_69 : decode b_Te_copy 69 = .ok (.getfield 28, 3) := by decide +kernel
theorem d_Te_copy_72 : decode b_Te_copy 72 = .ok (.invokestatic 42, 3) := by decide +kernel
theorem d_Te_copy_75 : decode b_Te_copy 75 = .ok (.return_, 1) := by decide +kernel
theorem d_Ro_makeSmall_0 : decode b_Ro_makeSmall 0 = .ok (.iconst 0, 1) := by decide +kernel
theorem d_Ro_makeSmall_1 : decode b_Ro_makeSmall 1 = .ok (.iload_n 1, 1) := by decide +kernel
theorem d_Ro_makeSmall_2 : decode b_Ro_makeSmall 2 = .ok (.invokestatic 52, 3) := by decide +kernel
theorem d_Ro_makeSmall_5 : decode b_Ro_makeSmall 5 = .ok (.istore_n 3, 1) := by decide +kernel
theorem d_Ro_makeSmall_6 : decode b_Ro_makeSmall 6 = .ok (.iload_n 3, 1) := by decide +kernel
theorem d_Ro_makeSmall_7 : decode b_Ro_makeSmall 7 = .ok (.iload_n 2, 1) := by decide +kernel
theorem d_Ro_makeSmall_8 : decode b_Ro_makeSmall 8 = .ok (.if_icmp .ge 32, 3) := by decide +kernel
theorem d_Ro_makeSmall_40 : decode b_Ro_makeSmall 40 = .ok (.return_, 1) := by decide +kernel
theorem d_It_makeSmall_0 : decode b_It_makeSmall 0 = .ok (.aload_n 0, 1) := by decide +kernel
theorem d_It_makeSmall_1 : decode b_It_makeSmall 1 = .ok (.getfield 12, 3) := by decide +kernel
theorem d_It_makeSmall_4 : decode b_It_makeSmall 4 = .ok (.iconst 0, 1) := by decide +kernel
theorem d_It_makeSmall_5 : decode b_It_makeSmall 5 = .ok (.aload_n 0, 1) := by decide +kernel
theorem d_It_makeSmall_6 : decode b_It_makeSmall 6 = .ok (.getfield 12, 3) := by decide +kernel
theorem d_It_makeSmall_9 : decode b_It_makeSmall 9 = .ok (.getfield 29, 3) := by decide +kernel
theorem d_It_makeSmall_12 : decode b_It_makeSmall 12 = .ok (.invokevirtual 61, 3) := by decide +kernel
theorem d_It_makeSmall_15 : decode b_It_makeSmall 15 = .ok (.return_, 1) := by decide +kernel
theorem d_Sh_spare_0 : decode b_Sh_spare 0 = .ok (.aload_n 0, 1) := by decide +kernel
theorem d_Sh_spare_1 : decode b_Sh_spare 1 = .ok (.getfield 11, 3) := by decide +kernel
theorem d_Sh_spare_4 : decode b_Sh_spare 4 = .ok (.bipush 24, 2) := by decide +kernel
theorem d_Sh_spare_6 : decode b_Sh_spare 6 = .ok (.aaload, 1) := by decide +kernel
theorem d_Sh_spare_7 : decode b_Sh_spare 7 = .ok (.astore_n 1, 1) := by decide +kernel
theorem d_Sh_spare_8 : decode b_Sh_spare 8 = .ok (.aload_n 1, 1) := by decide +kernel
theorem d_Sh_spare_9 : decode b_Sh_spare 9 = .ok (.ifnonnull 19, 3) := by decide +kernel
theorem d_Sh_spare_12 : decode b_Sh_spare 12 = .ok (.new 9, 3) := by decide +kernel
theorem d_Sh_spare_15 : decode b_Sh_spare 15 = .ok (.dup, 1) := by decide +kernel
theorem d_Sh_spare_16 : decode b_Sh_spare 16 = .ok (.invokespecial 24, 3) := by decide +kernel
theorem d_Sh_spare_19 : decode b_Sh_spare 19 = .ok (.astore_n 1, 1) := by decide +kernel
theorem d_Sh_spare_20 : decode b_Sh_spare 20 = .ok (.aload_n 0, 1) := by decide +kernel
theorem d_Sh_spare_21 : decode b_Sh_spare 21 = .ok (.getfield 11, 3) := by decide +kernel
theorem d_Sh_spare_24 : decode b_Sh_spare 24 = .ok (.bipush 24, 2) := by decide +kernel
theorem d_Sh_spare_26 : decode b_Sh_spare 26 = .ok (.aload_n 1, 1) := by decide +kernel
theorem d_Sh_spare_27 : decode b_Sh_spare 27 = .ok (.aastore, 1) := by decide +kernel
theorem d_Sh_spare_28 : decode b_Sh_spare 28 = .ok (.aload_n 1, 1) := by decide +kernel
theorem d_Sh_spare_29 : decode b_Sh_spare 29 = .ok (.areturn, 1) := by decide +kernel
theorem d_Th_obey_0 : decode b_Th_obey 0 = .ok (.aload_n 0, 1) := by decide +kernel
theorem d_Th_obey_1 : decode b_Th_obey 1 = .ok (.aload_n 1, 1) := by decide +kernel
theorem d_Th_obey_2 : decode b_Th_obey 2 = .ok (.ldc 64, 2) := by decide +kernel
theorem d_Th_obey_4 : decode b_Th_obey 4 = .ok (.invokevirtual 66, 3) := by decide +kernel
theorem d_Th_obey_7 : decode b_Th_obey 7 = .ok (.putfield 36, 3) := by decide +kernel
theorem d_Th_obey_10 : decode b_Th_obey 10 = .ok (.aload_n 0, 1) := by decide +kernel
theorem d_Th_obey_11 : decode b_Th_obey 11 = .ok (.aload_n 1, 1) := by decide +kernel
theorem d_Th_obey_12 : decode b_Th_obey 12 = .ok (.ldc 70, 2) := by decide +kernel
theorem d_Th_obey_14 : decode b_Th_obey 14 = .ok (.invokevirtual 66, 3) := by decide +kernel
theorem d_Th_obey_17 : decode b_Th_obey 17 = .ok (.putfield 39, 3) := by decide +kernel
theorem d_Th_obey_20 : decode b_Th_obey 20 = .ok (.aload_n 0, 1) := by decide +kernel
theorem d_Th_obey_21 : decode b_Th_obey 21 = .ok (.aload_n 1, 1) := by decide +kernel
theorem d_Th_obey_22 : decode b_Th_obey 22 = .ok (.ldc 72, 2) := by decide +kernel
theorem d_Th_obey_24 : decode b_Th_obey 24 = .ok (.invokevirtual 74, 3) := by decide +kernel
theorem d_Th_obey_27 : decode b_Th_obey 27 = .ok (.ifCond .ne 12, 3) := by decide +kernel
theorem d_Th_obey_30 : decode b_Th_obey 30 = .ok (.aload_n 1, 1) := by decide +kernel
theorem d_Th_obey_31 : decode b_Th_obey 31 = .ok (.ldc 78, 2) := by decide +kernel
theorem d_Th_obey_33 : decode b_Th_obey 33 = .ok (.invokevirtual 74, 3) := by decide +kernel
theorem d_Th_obey_36 : decode b_Th_obey 36 = .ok (.ifCond .eq 7, 3) := by decide +kernel
theorem d_Th_obey_43 : decode b_Th_obey 43 = .ok (.iconst 0, 1) := by decide +kernel
theorem d_Th_obey_44 : decode b_Th_obey 44 = .ok (.putfield 42, 3) := by decide +kernel
theorem d_Th_obey_47 : decode b_Th_obey 47 = .ok (.aload_n 0, 1) := by decide +kernel
theorem d_Th_obey_48 : decode b_Th_obey 48 = .ok (.aload_n 1, 1) := by decide +kernel
theorem d_Th_obey_49 : decode b_Th_obey 49 = .ok (.ldc 80, 2) := by decide +kernel
theorem d_Th_obey_51 : decode b_Th_obey 51 = .ok (.invokevirtual 74, 3) := by decide +kernel
theorem d_Th_obey_54 : decode b_Th_obey 54 = .ok (.putfield 46, 3) := by decide +kernel
theorem d_Th_obey_57 : decode b_Th_obey 57 = .ok (.aload_n 0, 1) := by decide +kernel
theorem d_Th_obey_58 : decode b_Th_obey 58 = .ok (.aload_n 0, 1) := by decide +kernel
theorem d_Th_obey_59 : decode b_Th_obey 59 = .ok (.getfield 46, 3) := by decide +kernel
theorem d_Th_obey_62 : decode b_Th_obey 62 = .ok (.ifCond .ne 30, 3) := by decide +kernel
theorem d_Th_obey_65 : decode b_Th_obey 65 = .ok (.aload_n 0, 1) := by decide +kernel
theorem d_Th_obey_66 : decode b_Th_obey 66 = .ok (.getfield 36, 3) := by decide +kernel
theorem d_Th_obey_69 : decode b_Th_obey 69 = .ok (.bipush (-2), 2) := by decide +kernel
theorem d_Th_obey_71 : decode b_Th_obey 71 = .ok (.if_icmp .ne 21, 3) := by decide +kernel
theorem d_Th_obey_74 : decode b_Th_obey 74 = .ok (.aload_n 1, 1) := by decide +kernel
theorem d_Th_obey_75 : decode b_Th_obey 75 = .ok (.ldc 82, 2) := by decide +kernel
theorem d_Th_obey_77 : decode b_Th_obey 77 = .ok (.invokevirtual 74, 3) := by decide +kernel
theorem d_Th_obey_80 : decode b_Th_obey 80 = .ok (.ifCond .ne 12, 3) := by decide +kernel
theorem d_Th_obey_83 : decode b_Th_obey 83 = .ok (.aload_n 1, 1) := by decide +kernel
theorem d_Th_obey_84 : decode b_Th_obey 84 = .ok (.ldc 84, 2) := by decide +kernel
theorem d_Th_obey_86 : decode b_Th_obey 86 = .ok (.invokevirtual 74, 3) := by decide +kernel
theorem d_Th_obey_89 : decode b_Th_obey 89 = .ok (.ifCond .eq 7, 3) := by decide +kernel
theorem d_Th_obey_96 : decode b_Th_obey 96 = .ok (.iconst 0, 1) := by decide +kernel
theorem d_Th_obey_97 : decode b_Th_obey 97 = .ok (.putfield 49, 3) := by decide +kernel
theorem d_Th_obey_100 : decode b_Th_obey 100 = .ok (.return_, 1) := by decide +kernel
theorem d_VS_describe_0 : decode b_VS_describe 0 = .ok (.aload_n 1, 1) := by decide +kernel
theorem d_VS_describe_1 : decode b_VS_describe 1 = .ok (.iload_n 2, 1) := by decide +kernel
theorem d_VS_describe_2 : decode b_VS_describe 2 = .ok (.putfield 158, 3) := by decide +kernel
theorem d_VS_describe_5 : decode b_VS_describe 5 = .ok (.aload_n 1, 1) := by decide +kernel
theorem d_VS_describe_6 : decode b_VS_describe 6 = .ok (.getfield 226, 3) := by decide +kernel
theorem d_VS_describe_9 : decode b_VS_describe 9 = .ok (.aload_n 0, 1) := by decide +kernel
theorem d_VS_describe_10 : decode b_VS_describe 10 = .ok (.getfield 26, 3) := by decide +kernel
theorem d_VS_describe_13 : decode b_VS_describe 13 = .ok (.invokevirtual 227, 3) := by decide +kernel
theorem d_VS_describe_16 : decode b_VS_describe 16 = .ok (.aload_n 0, 1) := by decide +kernel
theorem d_VS_describe_17 : decode b_VS_describe 17 = .ok (.aload_n 0, 1) := by decide +kernel
theorem d_VS_describe_18 : decode b_VS_describe 18 = .ok (.getfield 30, 3) := by decide +kernel
theorem d_VS_describe_21 : decode b_VS_describe 21 = .ok (.ldc 143, 2) := by decide +kernel
theorem d_VS_describe_23 : decode b_VS_describe 23 = .ok (.invokevirtual 145, 3) := by decide +kernel
theorem d_VS_describe_26 : decode b_VS_describe 26 = .ok (.pop, 1) := by decide +kernel
theorem d_VS_describe_27 : decode b_VS_describe 27 = .ok (.aload_n 1, 1) := by decide +kernel
theorem d_VS_describe_28 : decode b_VS_describe 28 = .ok (.getfield 149, 3) := by decide +kernel
theorem d_VS_describe_31 : decode b_VS_describe 31 = .ok (.aload_n 0, 1) := by decide +kernel
theorem d_VS_describe_32 : decode b_VS_describe 32 = .ok (.getfield 43, 3) := by decide +kernel
theorem d_VS_describe_35 : decode b_VS_describe 35 = .ok (.invokevirtual 231, 3) := by decide +kernel
theorem d_VS_describe_38 : decode b_VS_describe 38 = .ok (.aload_n 0, 1) := by decide +kernel
theorem d_VS_describe_39 : decode b_VS_describe 39 = .ok (.aload_n 0, 1) := by decide +kernel
theorem d_VS_describe_40 : decode b_VS_describe 40 = .ok (.getfield 30, 3) := by decide +kernel
theorem d_VS_describe_43 : decode b_VS_describe 43 = .ok (.ldc 233, 2) := by decide +kernel
theorem d_VS_describe_45 : decode b_VS_describe 45 = .ok (.aload_n 1, 1) := by decide +kernel
theorem d_VS_describe_46 : decode b_VS_describe 46 = .ok (.getfield 184, 3) := by decide +kernel
theorem d_VS_describe_49 : decode b_VS_describe 49 = .ok (.invokevirtual 80, 3) := by decide +kernel
theorem d_VS_describe_52 : decode b_VS_describe 52 = .ok (.pop, 1) := by decide +kernel
theorem d_VS_describe_53 : decode b_VS_describe 53 = .ok (.aload_n 1, 1) := by decide +kernel
theorem d_VS_describe_54 : decode b_VS_describe 54 = .ok (.getfield 184, 3) := by decide +kernel
theorem d_VS_describe_57 : decode b_VS_describe 57 = .ok (.invokevirtual 234, 3) := by decide +kernel
theorem d_VS_describe_60 : decode b_VS_describe 60 = .ok (.return_, 1) := by decide +kernel
theorem d_VS_startLife_0 : decode b_VS_startLife 0 = .ok (.aload_n 0, 1) := by decide +kernel
theorem d_VS_startLife_1 : decode b_VS_startLife 1 = .ok (.ldc 237, 2) := by decide +kernel
theorem d_VS_startLife_3 : decode b_VS_startLife 3 = .ok (.invokevirtual 239, 3) := by decide +kernel
theorem d_VS_startLife_6 : decode b_VS_startLife 6 = .ok (.istore_n 2, 1) := by decide +kernel
theorem d_VS_startLife_7 : decode b_VS_startLife 7 = .ok (.aload_n 0, 1) := by decide +kernel
theorem d_VS_startLife_8 : decode b_VS_startLife 8 = .ok (.ldc 243, 2) := by decide +kernel
theorem d_VS_startLife_10 : decode b_VS_startLife 10 = .ok (.invokevirtual 239, 3) := by decide +kernel
theorem d_VS_startLife_13 : decode b_VS_startLife 13 = .ok (.istore_n 3, 1) := by decide +kernel
theorem d_VS_startLife_14 : decode b_VS_startLife 14 = .ok (.aload_n 1, 1) := by decide +kernel
theorem d_VS_startLife_15 : decode b_VS_startLife 15 = .ok (.getfield 245, 3) := by decide +kernel
theorem d_VS_startLife_18 : decode b_VS_startLife 18 = .ok (.ifCond .lt 14, 3) := by decide +kernel
theorem d_VS_startLife_32 : decode b_VS_startLife 32 = .ok (.aload_n 1, 1) := by decide +kernel
theorem d_VS_startLife_33 : decode b_VS_startLife 33 = .ok (.getfield 248, 3) := by decide +kernel
theorem d_VS_startLife_36 : decode b_VS_startLife 36 = .ok (.ifCond .lt 14, 3) := by decide +kernel
theorem d_VS_startLife_50 : decode b_VS_startLife 50 = .ok (.iload_n 2, 1) := by decide +kernel
theorem d_VS_startLife_51 : decode b_VS_startLife 51 = .ok (.iconst (-1), 1) := by decide +kernel
theorem d_VS_startLife_52 : decode b_VS_startLife 52 = .ok (.if_icmp .eq 22, 3) := by decide +kernel
theorem d_VS_startLife_74 : decode b_VS_startLife 74 = .ok (.aload_n 1, 1) := by decide +kernel
theorem d_VS_startLife_75 : decode b_VS_startLife 75 = .ok (.iconst 0, 1) := by decide +kernel
theorem d_VS_startLife_76 : decode b_VS_startLife 76 = .ok (.putfield 178, 3) := by decide +kernel
theorem d_VS_startLife_79 : decode b_VS_startLife 79 = .ok (.aload_n 1, 1) := by decide +kernel
theorem d_VS_startLife_80 : decode b_VS_startLife 80 = .ok (.iconst 0, 1) := by decide +kernel
theorem d_VS_startLife_81 : decode b_VS_startLife 81 = .ok (.aload_n 0, 1) := by decide +kernel
theorem d_VS_startLife_82 : decode b_VS_startLife 82 = .ok (.ldc_w 256, 3) := by decide +kernel
theorem d_VS_startLife_85 : decode b_VS_startLife 85 = .ok (.invokevirtual 239, 3) := by decide +kernel
theorem d_VS_startLife_88 : decode b_VS_startLife 88 = .ok (.invokestatic 251, 3) := by decide +kernel
theorem d_VS_startLife_91 : decode b_VS_startLife 91 = .ok (.putfield 258, 3) := by decide +kernel
theorem d_VS_startLife_94 : decode b_VS_startLife 94 = .ok (.aload_n 1, 1) := by decide +kernel
theorem d_VS_startLife_95 : decode b_VS_startLife 95 = .ok (.aload_n 0, 1) := by decide +kernel
theorem d_VS_startLife_96 : decode b_VS_startLife 96 = .ok (.getfield 37, 3) := by decide +kernel
theorem d_VS_startLife_99 : decode b_VS_startLife 99 = .ok (.putfield 260, 3) := by decide +kernel
theorem d_VS_startLife_102 : decode b_VS_startLife 102 = .ok (.return_, 1) := by decide +kernel
theorem d_VS_mayBeKept_0 : decode b_VS_mayBeKept 0 = .ok (.aload_n 1, 1) := by decide +kernel
theorem d_VS_mayBeKept_1 : decode b_VS_mayBeKept 1 = .ok (.getfield 263, 3) := by decide +kernel
theorem d_VS_mayBeKept_4 : decode b_VS_mayBeKept 4 = .ok (.ifCond .ne 16, 3) := by decide +kernel
theorem d_VS_mayBeKept_7 : decode b_VS_mayBeKept 7 = .ok (.aload_n 1, 1) := by decide +kernel
theorem d_VS_mayBeKept_8 : decode b_VS_mayBeKept 8 = .ok (.getfield 184, 3) := by decide +kernel
theorem d_VS_mayBeKept_11 : decode b_VS_mayBeKept 11 = .ok (.ldc_w 266, 3) := by decide +kernel
theorem d_VS_mayBeKept_14 : decode b_VS_mayBeKept 14 = .ok (.invokevirtual 268, 3) := by decide +kernel
theorem d_VS_mayBeKept_17 : decode b_VS_mayBeKept 17 = .ok (.ifCond .eq 5, 3) := by decide +kernel
theorem d_VS_mayBeKept_22 : decode b_VS_mayBeKept 22 = .ok (.aload_n 0, 1) := by decide +kernel
theorem d_VS_mayBeKept_23 : decode b_VS_mayBeKept 23 = .ok (.aload_n 0, 1) := by decide +kernel
theorem d_VS_mayBeKept_24 : decode b_VS_mayBeKept 24 = .ok (.getfield 26, 3) := by decide +kernel
theorem d_VS_mayBeKept_27 : decode b_VS_mayBeKept 27 = .ok (.ldc 78, 2) := by decide +kernel
theorem d_VS_mayBeKept_29 : decode b_VS_mayBeKept 29 = .ok (.aload_n 0, 1) := by decide +kernel
theorem d_VS_mayBeKept_30 : decode b_VS_mayBeKept 30 = .ok (.getfield 49, 3) := by decide +kernel
theorem d_VS_mayBeKept_33 : decode b_VS_mayBeKept 33 = .ok (.invokevirtual 80, 3) := by decide +kernel
theorem d_VS_mayBeKept_36 : decode b_VS_mayBeKept 36 = .ok (.pop, 1) := by decide +kernel
theorem d_VS_mayBeKept_37 : decode b_VS_mayBeKept 37 = .ok (.aload_n 0, 1) := by decide +kernel
theorem d_VS_mayBeKept_38 : decode b_VS_mayBeKept 38 = .ok (.getfield 49, 3) := by decide +kernel
theorem d_VS_mayBeKept_41 : decode b_VS_mayBeKept 41 = .ok (.ldc_w 271, 3) := by decide +kernel
theorem d_VS_mayBeKept_44 : decode b_VS_mayBeKept 44 = .ok (.invokevirtual 102, 3) := by decide +kernel
theorem d_VS_mayBeKept_47 : decode b_VS_mayBeKept 47 = .ok (.ifCond .eq 5, 3) := by decide +kernel
theorem d_VS_mayBeKept_52 : decode b_VS_mayBeKept 52 = .ok (.aload_n 1, 1) := by decide +kernel
theorem d_VS_mayBeKept_53 : decode b_VS_mayBeKept 53 = .ok (.getfield 178, 3) := by decide +kernel
theorem d_VS_mayBeKept_56 : decode b_VS_mayBeKept 56 = .ok (.ifCond .gt 13, 3) := by decide +kernel
theorem d_VS_mayBeKept_59 : decode b_VS_mayBeKept 59 = .ok (.aload_n 1, 1) := by decide +kernel
theorem d_VS_mayBeKept_60 : decode b_VS_mayBeKept 60 = .ok (.getfield 149, 3) := by decide +kernel
theorem d_VS_mayBeKept_63 : decode b_VS_mayBeKept 63 = .ok (.getfield 59, 3) := by decide +kernel
theorem d_VS_mayBeKept_66 : decode b_VS_mayBeKept 66 = .ok (.ifCond .le 7, 3) := by decide +kernel
theorem d_VS_mayBeKept_73 : decode b_VS_mayBeKept 73 = .ok (.iconst 0, 1) := by decide +kernel
theorem d_VS_mayBeKept_74 : decode b_VS_mayBeKept 74 = .ok (.ireturn, 1) := by decide +kernel
theorem d_VS_keep_0 : decode b_VS_keep 0 = .ok (.aload_n 0, 1) := by decide +kernel
theorem d_VS_keep_1 : decode b_VS_keep 1 = .ok (.iload_n 1, 1) := by decide +kernel
theorem d_VS_keep_2 : decode b_VS_keep 2 = .ok (.invokevirtual 74, 3) := by decide +kernel
theorem d_VS_keep_5 : decode b_VS_keep 5 = .ok (.aload_n 0, 1) := by decide +kernel
theorem d_VS_keep_6 : decode b_VS_keep 6 = .ok (.getfield 19, 3) := by decide +kernel
theorem d_VS_keep_9 : decode b_VS_keep 9 = .ok (.invokevirtual 106, 3) := by decide +kernel
theorem d_VS_keep_12 : decode b_VS_keep 12 = .ok (.astore_n 2, 1) := by decide +kernel
theorem d_VS_keep_13 : decode b_VS_keep 13 = .ok (.aload_n 0, 1) := by decide +kernel
theorem d_VS_keep_14 : decode b_VS_keep 14 = .ok (.aload_n 2, 1) := by decide +kernel
theorem d_VS_keep_15 : decode b_VS_keep 15 = .ok (.iload_n 1, 1) := by decide +kernel
theorem d_VS_keep_16 : decode b_VS_keep 16 = .ok (.invokevirtual 110, 3) := by decide +kernel
theorem d_VS_keep_19 : decode b_VS_keep 19 = .ok (.aload_n 0, 1) := by decide +kernel
theorem d_VS_keep_20 : decode b_VS_keep 20 = .ok (.aload_n 0, 1) := by decide +kernel
theorem d_VS_keep_21 : decode b_VS_keep 21 = .ok (.getfield 30, 3) := by decide +kernel
theorem d_VS_keep_24 : decode b_VS_keep 24 = .ok (.ldc 78, 2) := by decide +kernel
theorem d_VS_keep_26 : decode b_VS_keep 26 = .ok (.aload_n 0, 1) := by decide +kernel
theorem d_VS_keep_27 : decode b_VS_keep 27 = .ok (.getfield 49, 3) := by decide +kernel
theorem d_VS_keep_30 : decode b_VS_keep 30 = .ok (.invokevirtual 80, 3) := by decide +kernel
theorem d_VS_keep_33 : decode b_VS_keep 33 = .ok (.pop, 1) := by decide +kernel
theorem d_VS_keep_34 : decode b_VS_keep 34 = .ok (.aload_n 2, 1) := by decide +kernel
theorem d_VS_keep_35 : decode b_VS_keep 35 = .ok (.aload_n 0, 1) := by decide +kernel
theorem d_VS_keep_36 : decode b_VS_keep 36 = .ok (.getfield 49, 3) := by decide +kernel
theorem d_VS_keep_39 : decode b_VS_keep 39 = .ok (.invokevirtual 114, 3) := by decide +kernel
theorem d_VS_keep_42 : decode b_VS_keep 42 = .ok (.aload_n 0, 1) := by decide +kernel
theorem d_VS_keep_43 : decode b_VS_keep 43 = .ok (.aload_n 2, 1) := by decide +kernel
theorem d_VS_keep_44 : decode b_VS_keep 44 = .ok (.invokevirtual 120, 3) := by decide +kernel
theorem d_VS_keep_47 : decode b_VS_keep 47 = .ok (.aload_n 0, 1) := by decide +kernel
theorem d_VS_keep_48 : decode b_VS_keep 48 = .ok (.getfield 19, 3) := by decide +kernel
theorem d_VS_keep_51 : decode b_VS_keep 51 = .ok (.aload_n 0, 1) := by decide +kernel
theorem d_VS_keep_52 : decode b_VS_keep 52 = .ok (.aload_n 2, 1) := by decide +kernel
theorem d_VS_keep_53 : decode b_VS_keep 53 = .ok (.invokevirtual 123, 3) := by decide +kernel
theorem d_VS_keep_56 : decode b_VS_keep 56 = .ok (.invokevirtual 126, 3) := by decide +kernel
theorem d_VS_keep_59 : decode b_VS_keep 59 = .ok (.aload_n 0, 1) := by decide +kernel
theorem d_VS_keep_60 : decode b_VS_keep 60 = .ok (.aload_n 2, 1) := by decide +kernel
theorem d_VS_keep_61 : decode b_VS_keep 61 = .ok (.invokevirtual 129, 3) := by decide +kernel
theorem d_VS_keep_64 : decode b_VS_keep 64 = .ok (.ifCond .ne 5, 3) := by decide +kernel
theorem d_VS_keep_67 : decode b_VS_keep 67 = .ok (.iconst 0, 1) := by decide +kernel
theorem d_VS_keep_68 : decode b_VS_keep 68 = .ok (.ireturn, 1) := by decide +kernel
set_option maxRecDepth 20000 in
theorem w_587 : Cond.methodLink "VaryStore$Text" 36 Lib.Math.min.name ∈ TB := tb_in 587 (by decide +kernel) (by decide +kernel)
set_option maxRecDepth 20000 in
theorem w_588 : Cond.static Lib.Math.min.name ∈ TB := tb_in 588 (by decide +kernel) (by decide +kernel)
set_option maxRecDepth 20000 in
theorem w_38 : Cond.initialized "java/lang/Math" ∈ TB := tb_in 38 (by decide +kernel) (by decide +kernel)
set_option maxRecDepth 20000 in
theorem w_589 : Cond.code Lib.Math.min.name Lib.Math.min.code 2 (some .int) ∈ TB := tb_in 589 (by decide +kernel) (by decide +kernel)
set_option maxRecDepth 20000 in
theorem w_590 : Cond.methodLink "VaryStore$Text" 42 arraycopyName ∈ TB := tb_in 590 (by decide +kernel) (by decide +kernel)
set_option maxRecDepth 20000 in
theorem w_240 : Cond.native arraycopyName ∈ TB := tb_in 240 (by decide +kernel) (by decide +kernel)
set_option maxRecDepth 20000 in
theorem w_239 : Cond.static arraycopyName ∈ TB := tb_in 239 (by decide +kernel) (by decide +kernel)
set_option maxRecDepth 20000 in
theorem w_37 : Cond.initialized "java/lang/System" ∈ TB := tb_in 37 (by decide +kernel) (by decide +kernel)
set_option maxRecDepth 20000 in
theorem w_262 : Cond.methodLink "VaryStore$Row" 52 Lib.Math.max.name ∈ TB := tb_in 262 (by decide +kernel) (by decide +kernel)
set_option maxRecDepth 20000 in
theorem w_263 : Cond.static Lib.Math.max.name ∈ TB := tb_in 263 (by decide +kernel) (by decide +kernel)
set_option maxRecDepth 20000 in
theorem w_264 : Cond.code Lib.Math.max.name Lib.Math.max.code 2 (some .int) ∈ TB := tb_in 264 (by decide +kernel) (by decide +kernel)
set_option maxRecDepth 20000 in
theorem w_261 : Cond.code ⟨"VaryStore$Row", "makeSmall", "(II)V"⟩ prog_3_method_10_code 4 none ∈ TB := tb_in 261 (by decide +kernel) (by decide +kernel)
set_option maxRecDepth 20000 in
theorem w_598 : Cond.methodLink "VaryStore$Items" 61 ⟨"VaryStore$Row", "makeSmall", "(II)V"⟩ ∈ TB := tb_in 598 (by decide +kernel) (by decide +kernel)
set_option maxRecDepth 20000 in
theorem w_259 : Cond.instanceMethod ⟨"VaryStore$Row", "makeSmall", "(II)V"⟩ ∈ TB := tb_in 259 (by decide +kernel) (by decide +kernel)
set_option maxRecDepth 20000 in
theorem w_260 : Cond.selects "VaryStore$Row" ⟨"VaryStore$Row", "makeSmall", "(II)V"⟩ ⟨"VaryStore$Row", "makeSmall", "(II)V"⟩ ∈ TB := tb_in 260 (by decide +kernel) (by decide +kernel)
set_option maxRecDepth 20000 in
theorem w_516 : Cond.instantiable "VaryStore$Thing" 13 ∈ TB := tb_in 516 (by decide +kernel) (by decide +kernel)
set_option maxRecDepth 20000 in
theorem w_47 : Cond.initialized "VaryStore$Thing" ∈ TB := tb_in 47 (by decide +kernel) (by decide +kernel)
set_option maxRecDepth 20000 in
theorem w_519 : Cond.code ⟨"VaryStore$Thing", "<init>", "()V"⟩ prog_6_method_1_code 1 none ∈ TB := tb_in 519 (by decide +kernel) (by decide +kernel)
set_option maxRecDepth 20000 in
theorem w_517 : Cond.methodLinkNest "VaryStore$Shelf" 24 ⟨"VaryStore$Thing", "<init>", "()V"⟩ "VaryStore" ∈ NB := nb_in 517 (by decide +kernel) (by decide +kernel)
set_option maxRecDepth 20000 in
theorem w_518 : Cond.instanceMethod ⟨"VaryStore$Thing", "<init>", "()V"⟩ ∈ TB := tb_in 518 (by decide +kernel) (by decide +kernel)
set_option maxRecDepth 20000 in
theorem w_604 : Cond.methodLink "VaryStore$Thing" 66 ⟨"VaryStore$Items", "said", "(Ljava/lang/String;)I"⟩ ∈ TB := tb_in 604 (by decide +kernel) (by decide +kernel)
set_option maxRecDepth 20000 in
theorem w_607 : Cond.methodLink "VaryStore$Thing" 74 ⟨"VaryStore$Items", "has", "(Ljava/lang/String;)Z"⟩ ∈ TB := tb_in 607 (by decide +kernel) (by decide +kernel)
set_option maxRecDepth 20000 in
theorem w_534 : Cond.fieldLinkNest "VaryStore" 158 "VaryStore$Thing" "path" "I" "VaryStore"  ∈ NB := nb_in 534 (by decide +kernel) (by decide +kernel)
set_option maxRecDepth 20000 in
theorem w_532 : Cond.fieldLinkNest "VaryStore" 226 "VaryStore$Thing" "request" "LVaryStore$Text;" "VaryStore"  ∈ NB := nb_in 532 (by decide +kernel) (by decide +kernel)
set_option maxRecDepth 20000 in
theorem w_586 : Cond.code ⟨"VaryStore$Text", "copy", "(LVaryStore$Text;)V"⟩ prog_5_method_2_code 2 none ∈ TB := tb_in 586 (by decide +kernel) (by decide +kernel)
set_option maxRecDepth 20000 in
theorem w_583 : Cond.methodLink "VaryStore" 227 ⟨"VaryStore$Text", "copy", "(LVaryStore$Text;)V"⟩ ∈ TB := tb_in 583 (by decide +kernel) (by decide +kernel)
set_option maxRecDepth 20000 in
theorem w_584 : Cond.instanceMethod ⟨"VaryStore$Text", "copy", "(LVaryStore$Text;)V"⟩ ∈ TB := tb_in 584 (by decide +kernel) (by decide +kernel)
set_option maxRecDepth 20000 in
theorem w_585 : Cond.selects "VaryStore$Text" ⟨"VaryStore$Text", "copy", "(LVaryStore$Text;)V"⟩ ⟨"VaryStore$Text", "copy", "(LVaryStore$Text;)V"⟩ ∈ TB := tb_in 585 (by decide +kernel) (by decide +kernel)
set_option maxRecDepth 20000 in
theorem w_528 : Cond.fieldLinkNest "VaryStore" 149 "VaryStore$Thing" "etag" "LVaryStore$Row;" "VaryStore"  ∈ NB := nb_in 528 (by decide +kernel) (by decide +kernel)
set_option maxRecDepth 20000 in
theorem w_592 : Cond.methodLink "VaryStore" 231 ⟨"VaryStore$Row", "copy", "(LVaryStore$Row;)V"⟩ ∈ TB := tb_in 592 (by decide +kernel) (by decide +kernel)
set_option maxRecDepth 20000 in
theorem w_530 : Cond.fieldLinkNest "VaryStore" 184 "VaryStore$Thing" "vary" "LVaryStore$Items;" "VaryStore"  ∈ NB := nb_in 530 (by decide +kernel) (by decide +kernel)
set_option maxRecDepth 20000 in
theorem w_597 : Cond.code ⟨"VaryStore$Items", "makeSmall", "()V"⟩ prog_2_method_7_code 1 none ∈ TB := tb_in 597 (by decide +kernel) (by decide +kernel)
set_option maxRecDepth 20000 in
theorem w_594 : Cond.methodLink "VaryStore" 234 ⟨"VaryStore$Items", "makeSmall", "()V"⟩ ∈ TB := tb_in 594 (by decide +kernel) (by decide +kernel)
set_option maxRecDepth 20000 in
theorem w_595 : Cond.instanceMethod ⟨"VaryStore$Items", "makeSmall", "()V"⟩ ∈ TB := tb_in 595 (by decide +kernel) (by decide +kernel)
set_option maxRecDepth 20000 in
theorem w_596 : Cond.selects "VaryStore$Items" ⟨"VaryStore$Items", "makeSmall", "()V"⟩ ⟨"VaryStore$Items", "makeSmall", "()V"⟩ ∈ TB := tb_in 596 (by decide +kernel) (by decide +kernel)
set_option maxRecDepth 20000 in
theorem w_620 : Cond.code ⟨"VaryStore", "numberOf", "(Ljava/lang/String;)I"⟩ prog_1_method_17_code 2 (some .int) ∈ TB := tb_in 620 (by decide +kernel) (by decide +kernel)
set_option maxRecDepth 20000 in
theorem w_617 : Cond.methodLink "VaryStore" 239 ⟨"VaryStore", "numberOf", "(Ljava/lang/String;)I"⟩ ∈ TB := tb_in 617 (by decide +kernel) (by decide +kernel)
set_option maxRecDepth 20000 in
theorem w_619 : Cond.instanceMethod ⟨"VaryStore", "numberOf", "(Ljava/lang/String;)I"⟩ ∈ TB := tb_in 619 (by decide +kernel) (by decide +kernel)
set_option maxRecDepth 20000 in
theorem w_14 : Cond.selects "VaryStore" ⟨"VaryStore", "numberOf", "(Ljava/lang/String;)I"⟩ ⟨"VaryStore", "numberOf", "(Ljava/lang/String;)I"⟩ ∈ TB := tb_in 14 (by decide +kernel) (by decide +kernel)
set_option maxRecDepth 20000 in
theorem w_536 : Cond.fieldLinkNest "VaryStore" 245 "VaryStore$Thing" "sharedMaxAge" "I" "VaryStore"  ∈ NB := nb_in 536 (by decide +kernel) (by decide +kernel)
set_option maxRecDepth 20000 in
theorem w_538 : Cond.fieldLinkNest "VaryStore" 248 "VaryStore$Thing" "maxAge" "I" "VaryStore"  ∈ NB := nb_in 538 (by decide +kernel) (by decide +kernel)
set_option maxRecDepth 20000 in
theorem w_545 : Cond.fieldLinkNest "VaryStore" 178 "VaryStore$Thing" "life" "I" "VaryStore"  ∈ NB := nb_in 545 (by decide +kernel) (by decide +kernel)
set_option maxRecDepth 20000 in
theorem w_623 : Cond.methodLink "VaryStore" 251 Lib.Math.max.name ∈ TB := tb_in 623 (by decide +kernel) (by decide +kernel)
set_option maxRecDepth 20000 in
theorem w_547 : Cond.fieldLinkNest "VaryStore" 258 "VaryStore$Thing" "age" "I" "VaryStore"  ∈ NB := nb_in 547 (by decide +kernel) (by decide +kernel)
set_option maxRecDepth 20000 in
theorem w_549 : Cond.fieldLinkNest "VaryStore" 260 "VaryStore$Thing" "since" "I" "VaryStore"  ∈ NB := nb_in 549 (by decide +kernel) (by decide +kernel)
set_option maxRecDepth 20000 in
theorem w_540 : Cond.fieldLinkNest "VaryStore" 263 "VaryStore$Thing" "secret" "Z" "VaryStore"  ∈ NB := nb_in 540 (by decide +kernel) (by decide +kernel)
set_option maxRecDepth 20000 in
theorem w_637 : Cond.code ⟨"VaryStore$Items", "holds", "(Ljava/lang/String;)Z"⟩ prog_2_method_9_code 4 (some .boolean) ∈ TB := tb_in 637 (by decide +kernel) (by decide +kernel)
set_option maxRecDepth 20000 in
theorem w_634 : Cond.methodLink "VaryStore" 268 ⟨"VaryStore$Items", "holds", "(Ljava/lang/String;)Z"⟩ ∈ TB := tb_in 634 (by decide +kernel) (by decide +kernel)
set_option maxRecDepth 20000 in
theorem w_635 : Cond.instanceMethod ⟨"VaryStore$Items", "holds", "(Ljava/lang/String;)Z"⟩ ∈ TB := tb_in 635 (by decide +kernel) (by decide +kernel)
set_option maxRecDepth 20000 in
theorem w_636 : Cond.selects "VaryStore$Items" ⟨"VaryStore$Items", "holds", "(Ljava/lang/String;)Z"⟩ ⟨"VaryStore$Items", "holds", "(Ljava/lang/String;)Z"⟩ ∈ TB := tb_in 636 (by decide +kernel) (by decide +kernel)
set_option maxRecDepth 20000 in
theorem w_515 : Cond.code ⟨"VaryStore$Shelf", "spare", "()LVaryStore$Thing;"⟩ prog_4_method_3_code 2 (some (.object "VaryStore$Thing")) ∈ TB := tb_in 515 (by decide +kernel) (by decide +kernel)
set_option maxRecDepth 20000 in
theorem w_512 : Cond.methodLink "VaryStore" 106 ⟨"VaryStore$Shelf", "spare", "()LVaryStore$Thing;"⟩ ∈ TB := tb_in 512 (by decide +kernel) (by decide +kernel)
set_option maxRecDepth 20000 in
theorem w_513 : Cond.instanceMethod ⟨"VaryStore$Shelf", "spare", "()LVaryStore$Thing;"⟩ ∈ TB := tb_in 513 (by decide +kernel) (by decide +kernel)
set_option maxRecDepth 20000 in
theorem w_514 : Cond.selects "VaryStore$Shelf" ⟨"VaryStore$Shelf", "spare", "()LVaryStore$Thing;"⟩ ⟨"VaryStore$Shelf", "spare", "()LVaryStore$Thing;"⟩ ∈ TB := tb_in 514 (by decide +kernel) (by decide +kernel)
set_option maxRecDepth 20000 in
theorem w_582 : Cond.code ⟨"VaryStore", "describe", "(LVaryStore$Thing;I)V"⟩ prog_1_method_18_code 3 none ∈ TB := tb_in 582 (by decide +kernel) (by decide +kernel)
set_option maxRecDepth 20000 in
theorem w_579 : Cond.methodLink "VaryStore" 110 ⟨"VaryStore", "describe", "(LVaryStore$Thing;I)V"⟩ ∈ TB := tb_in 579 (by decide +kernel) (by decide +kernel)
set_option maxRecDepth 20000 in
theorem w_581 : Cond.instanceMethod ⟨"VaryStore", "describe", "(LVaryStore$Thing;I)V"⟩ ∈ TB := tb_in 581 (by decide +kernel) (by decide +kernel)
set_option maxRecDepth 20000 in
theorem w_12 : Cond.selects "VaryStore" ⟨"VaryStore", "describe", "(LVaryStore$Thing;I)V"⟩ ⟨"VaryStore", "describe", "(LVaryStore$Thing;I)V"⟩ ∈ TB := tb_in 12 (by decide +kernel) (by decide +kernel)
set_option maxRecDepth 20000 in
theorem w_602 : Cond.code ⟨"VaryStore$Thing", "obey", "(LVaryStore$Items;)V"⟩ prog_6_method_2_code 2 none ∈ TB := tb_in 602 (by decide +kernel) (by decide +kernel)
set_option maxRecDepth 20000 in
theorem w_599 : Cond.methodLink "VaryStore" 114 ⟨"VaryStore$Thing", "obey", "(LVaryStore$Items;)V"⟩ ∈ TB := tb_in 599 (by decide +kernel) (by decide +kernel)
set_option maxRecDepth 20000 in
theorem w_600 : Cond.instanceMethod ⟨"VaryStore$Thing", "obey", "(LVaryStore$Items;)V"⟩ ∈ TB := tb_in 600 (by decide +kernel) (by decide +kernel)
set_option maxRecDepth 20000 in
theorem w_601 : Cond.selects "VaryStore$Thing" ⟨"VaryStore$Thing", "obey", "(LVaryStore$Items;)V"⟩ ⟨"VaryStore$Thing", "obey", "(LVaryStore$Items;)V"⟩ ∈ TB := tb_in 601 (by decide +kernel) (by decide +kernel)
set_option maxRecDepth 20000 in
theorem w_615 : Cond.code ⟨"VaryStore", "startLife", "(LVaryStore$Thing;)V"⟩ prog_1_method_19_code 4 none ∈ TB := tb_in 615 (by decide +kernel) (by decide +kernel)
set_option maxRecDepth 20000 in
theorem w_612 : Cond.methodLink "VaryStore" 120 ⟨"VaryStore", "startLife", "(LVaryStore$Thing;)V"⟩ ∈ TB := tb_in 612 (by decide +kernel) (by decide +kernel)
set_option maxRecDepth 20000 in
theorem w_614 : Cond.instanceMethod ⟨"VaryStore", "startLife", "(LVaryStore$Thing;)V"⟩ ∈ TB := tb_in 614 (by decide +kernel) (by decide +kernel)
set_option maxRecDepth 20000 in
theorem w_13 : Cond.selects "VaryStore" ⟨"VaryStore", "startLife", "(LVaryStore$Thing;)V"⟩ ⟨"VaryStore", "startLife", "(LVaryStore$Thing;)V"⟩ ∈ TB := tb_in 13 (by decide +kernel) (by decide +kernel)
set_option maxRecDepth 20000 in
theorem w_628 : Cond.code ⟨"VaryStore", "placeOfSame", "(LVaryStore$Thing;)I"⟩ prog_1_method_21_code 4 (some .int) ∈ TB := tb_in 628 (by decide +kernel) (by decide +kernel)
set_option maxRecDepth 20000 in
theorem w_625 : Cond.methodLink "VaryStore" 123 ⟨"VaryStore", "placeOfSame", "(LVaryStore$Thing;)I"⟩ ∈ TB := tb_in 625 (by decide +kernel) (by decide +kernel)
set_option maxRecDepth 20000 in
theorem w_627 : Cond.instanceMethod ⟨"VaryStore", "placeOfSame", "(LVaryStore$Thing;)I"⟩ ∈ TB := tb_in 627 (by decide +kernel) (by decide +kernel)
set_option maxRecDepth 20000 in
theorem w_15 : Cond.selects "VaryStore" ⟨"VaryStore", "placeOfSame", "(LVaryStore$Thing;)I"⟩ ⟨"VaryStore", "placeOfSame", "(LVaryStore$Thing;)I"⟩ ∈ TB := tb_in 15 (by decide +kernel) (by decide +kernel)
set_option maxRecDepth 20000 in
theorem w_201 : Cond.code ⟨"VaryStore$Shelf", "drop", "(I)V"⟩ prog_4_method_6_code 2 none ∈ TB := tb_in 201 (by decide +kernel) (by decide +kernel)
set_option maxRecDepth 20000 in
theorem w_198 : Cond.methodLink "VaryStore" 126 ⟨"VaryStore$Shelf", "drop", "(I)V"⟩ ∈ TB := tb_in 198 (by decide +kernel) (by decide +kernel)
set_option maxRecDepth 20000 in
theorem w_199 : Cond.instanceMethod ⟨"VaryStore$Shelf", "drop", "(I)V"⟩ ∈ TB := tb_in 199 (by decide +kernel) (by decide +kernel)
set_option maxRecDepth 20000 in
theorem w_200 : Cond.selects "VaryStore$Shelf" ⟨"VaryStore$Shelf", "drop", "(I)V"⟩ ⟨"VaryStore$Shelf", "drop", "(I)V"⟩ ∈ TB := tb_in 200 (by decide +kernel) (by decide +kernel)
set_option maxRecDepth 20000 in
theorem w_632 : Cond.code ⟨"VaryStore", "mayBeKept", "(LVaryStore$Thing;)Z"⟩ prog_1_method_20_code 2 (some .boolean) ∈ TB := tb_in 632 (by decide +kernel) (by decide +kernel)
set_option maxRecDepth 20000 in
theorem w_629 : Cond.methodLink "VaryStore" 129 ⟨"VaryStore", "mayBeKept", "(LVaryStore$Thing;)Z"⟩ ∈ TB := tb_in 629 (by decide +kernel) (by decide +kernel)
set_option maxRecDepth 20000 in
theorem w_631 : Cond.instanceMethod ⟨"VaryStore", "mayBeKept", "(LVaryStore$Thing;)Z"⟩ ∈ TB := tb_in 631 (by decide +kernel) (by decide +kernel)
set_option maxRecDepth 20000 in
theorem w_16 : Cond.selects "VaryStore" ⟨"VaryStore", "mayBeKept", "(LVaryStore$Thing;)Z"⟩ ⟨"VaryStore", "mayBeKept", "(LVaryStore$Thing;)Z"⟩ ∈ TB := tb_in 16 (by decide +kernel) (by decide +kernel)
set_option maxRecDepth 100000 in
theorem fa_VS_158 : FA "VaryStore" 158 5 3 R_Th F_Th 13 t_Th := ⟨rfl, uw_Th, by decide, to_Th, n_Th, Or.inr ⟨"VaryStore", w_534⟩⟩
set_option maxRecDepth 100000 in
theorem fa_VS_226 : FA "VaryStore" 226 5 2 R_Th F_Th 13 t_Th := ⟨rfl, uw_Th, by decide, to_Th, n_Th, Or.inr ⟨"VaryStore", w_532⟩⟩
set_option maxRecDepth 100000 in
theorem fa_VS_149 : FA "VaryStore" 149 5 0 R_Th F_Th 13 t_Th := ⟨rfl, uw_Th, by decide, to_Th, n_Th, Or.inr ⟨"VaryStore", w_528⟩⟩
set_option maxRecDepth 100000 in
theorem fa_VS_184 : FA "VaryStore" 184 5 1 R_Th F_Th 13 t_Th := ⟨rfl, uw_Th, by decide, to_Th, n_Th, Or.inr ⟨"VaryStore", w_530⟩⟩
set_option maxRecDepth 100000 in
theorem fa_VS_245 : FA "VaryStore" 245 5 4 R_Th F_Th 13 t_Th := ⟨rfl, uw_Th, by decide, to_Th, n_Th, Or.inr ⟨"VaryStore", w_536⟩⟩
set_option maxRecDepth 100000 in
theorem fa_VS_248 : FA "VaryStore" 248 5 5 R_Th F_Th 13 t_Th := ⟨rfl, uw_Th, by decide, to_Th, n_Th, Or.inr ⟨"VaryStore", w_538⟩⟩
set_option maxRecDepth 100000 in
theorem fa_VS_178 : FA "VaryStore" 178 5 9 R_Th F_Th 13 t_Th := ⟨rfl, uw_Th, by decide, to_Th, n_Th, Or.inr ⟨"VaryStore", w_545⟩⟩
set_option maxRecDepth 100000 in
theorem fa_VS_258 : FA "VaryStore" 258 5 10 R_Th F_Th 13 t_Th := ⟨rfl, uw_Th, by decide, to_Th, n_Th, Or.inr ⟨"VaryStore", w_547⟩⟩
set_option maxRecDepth 100000 in
theorem fa_VS_260 : FA "VaryStore" 260 5 11 R_Th F_Th 13 t_Th := ⟨rfl, uw_Th, by decide, to_Th, n_Th, Or.inr ⟨"VaryStore", w_549⟩⟩
set_option maxRecDepth 100000 in
theorem fa_VS_263 : FA "VaryStore" 263 5 6 R_Th F_Th 13 t_Th := ⟨rfl, uw_Th, by decide, to_Th, n_Th, Or.inr ⟨"VaryStore", w_540⟩⟩
def k_Te_copy0 : MS := ("VaryStore$Text", b_Te_copy, 2, none, "copy", { frames := 2, cells := 0, slots := 0, locals := 45 }, [])
set_option maxRecDepth 100000 in
set_option maxHeartbeats 4000000 in
theorem c_Te_copy0 (Γ : GE) (t : Nat) (o : Nat) (ln : Int) (z : Int) (f : Nat → Int32) (g : Nat → Int32) (g1 : Nat → Int32) (g2 : Nat → Int32) (g3 : Nat → Int32) (h1 : Nat → Int32) (h2 : Nat → Int32) (h3 : Nat → Int32) {M : HM} {n : Nat} (hto : t + 6 ≤ o ∨ o + 6 ≤ t) (p0 : M (t) = some (.inr (4, [.ref (t + 1), .ref (t + 3), .ref (t + 4), .ref (t + 5), .int (iI (ln))]))) (p1 : M (t + 1) = some (.inr (2, [.ref (t + 2), .int (iI (z))]))) (p2 : M (t + 1 + 1) = some (.inl (Γ.2.2.1 0, 300, .inl (f)))) (p3 : M (t + 3) = some (.inl (Γ.2.2.1 1, 100, .inl (g1)))) (p4 : M (t + 4) = some (.inl (Γ.2.2.1 1, 100, .inl (g2)))) (p5 : M (t + 5) = some (.inl (Γ.2.2.1 1, 100, .inl (g3)))) (p6 : M (o) = some (.inr (4, [.ref (o + 1), .ref (o + 3), .ref (o + 4), .ref (o + 5), .int (iI (0))]))) (p7 : M (o + 1) = some (.inr (2, [.ref (o + 2), .int (iI (0))]))) (p8 : M (o + 1 + 1) = some (.inl (Γ.2.2.1 0, 300, .inl (g)))) (p9 : M (o + 3) = some (.inl (Γ.2.2.1 1, 100, .inl (h1)))) (p10 : M (o + 4) = some (.inl (Γ.2.2.1 1, 100, .inl (h2)))) (p11 : M (o + 5) = some (.inl (Γ.2.2.1 1, 100, .inl (h3)))) : CT Γ k_Te_copy0 y_Te_copy [.ref (t), .ref (o)] M (n) (fun v M' n' => n = n' ∧ (∀ q, q ≠ t + 1 → q ≠ t → q ≠ t + 3 → q ≠ t + 4 → q ≠ t + 5 → M' q = M q) ∧ v = none ∧ M' (t + 1) = some (.inr (2, [.ref (t + 2), .int (iI (0))])) ∧ M' (t) = some (.inr (4, [.ref (t + 1), .ref (t + 3), .ref (t + 4), .ref (t + 5), .int (iI (0))])) ∧ M' (t + 3) = some (.inl (Γ.2.2.1 1, 100, .inl (g1))) ∧ M' (t + 4) = some (.inl (Γ.2.2.1 1, 100, .inl (g2))) ∧ M' (t + 5) = some (.inl (Γ.2.2.1 1, 100, .inl (g3)))) := by
  refine CT.of (by decide) rfl rfl 0 rfl (Nat.le_of_ble_eq_true rfl) rfl ?_
  refine g_aload_n d_Te_copy_0 rfl ?_
  refine g_get fa_Te_12 d_Te_copy_1 p0 rfl ?_
  refine g_aload_n d_Te_copy_4 rfl ?_
  refine g_get fa_Te_12 d_Te_copy_5 p6 rfl ?_
  refine g_callV1 (ν := k_Ro_copy0) ⟨w_226, w_31, w_229, by decide, by decide, by decide +kernel⟩ w_227 w_228 (c_Ro_copy0 Γ (t + 1) (o + 1) (z) (f) (g) (by omega) p1 p2 p7 p8) d_Te_copy_8 p1 rfl rfl ⟨⟨by decide, by decide⟩, ⟨by decide, by decide⟩⟩ (Nat.le_of_ble_eq_true rfl) (fun v1 M1 n1 hQ1 hn1 hd1 => ?_)
  obtain ⟨rfl, hf1, rfl, hw1_0⟩ := hQ1
  refine g_aload_n d_Te_copy_11 rfl ?_
  refine g_aload_n d_Te_copy_12 rfl ?_
  refine g_get fa_Te_28 d_Te_copy_13 ((hf1 (o) (by omega)).trans p6) rfl ?_
  refine g_bipush d_Te_copy_16 (by decide) ?_
  refine g_min (z := 0) d_Te_copy_18 w_587 w_588 w_38 w_589 (by decide) (Nat.le_of_ble_eq_true rfl) (by decide) (by decide) (by omega) (by omega) (by omega) (by omega) (by first | rfl | decide) ?_
  refine g_put fa_Te_28 d_Te_copy_21 ((hf1 (t) (by omega)).trans p0) (Nat.le_of_ble_eq_true rfl) rfl rfl rfl ?_
  refine g_aload_n d_Te_copy_24 rfl ?_
  refine g_get fa_Te_18 d_Te_copy_25 ((hu_ne (by omega)).trans ((hf1 (o) (by omega)).trans p6)) rfl ?_
  refine g_iconst d_Te_copy_28 ?_
  refine g_aload_n d_Te_copy_29 rfl ?_
  refine g_get fa_Te_18 d_Te_copy_30 (hu_same _ _ _) rfl ?_
  refine g_iconst d_Te_copy_33 ?_
  refine g_aload_n d_Te_copy_34 rfl ?_
  refine g_get fa_Te_28 d_Te_copy_35 (hu_same _ _ _) rfl ?_
  refine g_copy (sp := 0) (dp := 0) (k := 0) 1 rfl (by decide) d_Te_copy_38 w_590 w_240 w_239 w_37 ((hu_ne (by omega)).trans ((hf1 (o + 3) (by omega)).trans p9)) ((hu_ne (by omega)).trans ((hf1 (t + 3) (by omega)).trans p3)) (by omega) (by omega) (by omega) (by omega) (fun i hi => absurd hi (by omega)) (by decide) (Nat.le_of_ble_eq_true rfl) ?_
  rw [va_cpy0]
  refine g_aload_n d_Te_copy_41 rfl ?_
  refine g_get fa_Te_22 d_Te_copy_42 ((hu_ne (by omega)).trans ((hu_ne (by omega)).trans ((hf1 (o) (by omega)).trans p6))) rfl ?_
  refine g_iconst d_Te_copy_45 ?_
  refine g_aload_n d_Te_copy_46 rfl ?_
  refine g_get fa_Te_22 d_Te_copy_47 ((hu_ne (by omega)).trans (hu_same _ _ _)) rfl ?_
  refine g_iconst d_Te_copy_50 ?_
  refine g_aload_n d_Te_copy_51 rfl ?_
  refine g_get fa_Te_28 d_Te_copy_52 ((hu_ne (by omega)).trans (hu_same _ _ _)) rfl ?_
  refine g_copy (sp := 0) (dp := 0) (k := 0) 1 rfl (by decide) d_Te_copy_55 w_590 w_240 w_239 w_37 ((hu_ne (by omega)).trans ((hu_ne (by omega)).trans ((hf1 (o + 4) (by omega)).trans p10))) ((hu_ne (by omega)).trans ((hu_ne (by omega)).trans ((hf1 (t + 4) (by omega)).trans p4))) (by omega) (by omega) (by omega) (by omega) (fun i hi => absurd hi (by omega)) (by decide) (Nat.le_of_ble_eq_true rfl) ?_
  rw [va_cpy0]
  refine g_aload_n d_Te_copy_58 rfl ?_
  refine g_get fa_Te_25 d_Te_copy_59 ((hu_ne (by omega)).trans ((hu_ne (by omega)).trans ((hu_ne (by omega)).trans ((hf1 (o) (by omega)).trans p6)))) rfl ?_
  refine g_iconst d_Te_copy_62 ?_
  refine g_aload_n d_Te_copy_63 rfl ?_
  refine g_get fa_Te_25 d_Te_copy_64 ((hu_ne (by omega)).trans ((hu_ne (by omega)).trans (hu_same _ _ _))) rfl ?_
  refine g_iconst d_Te_copy_67 ?_
  refine g_aload_n d_Te_copy_68 rfl ?_
  refine g_get fa_Te_28 d_Te_copy_69 ((hu_ne (by omega)).trans ((hu_ne (by omega)).trans (hu_same _ _ _))) rfl ?_
  refine g_copy (sp := 0) (dp := 0) (k := 0) 1 rfl (by decide) d_Te_copy_72 w_590 w_240 w_239 w_37 ((hu_ne (by omega)).trans ((hu_ne (by omega)).trans ((hu_ne (by omega)).trans ((hf1 (o + 5) (by omega)).trans p11)))) ((hu_ne (by omega)).trans ((hu_ne (by omega)).trans ((hu_ne (by omega)).trans ((hf1 (t + 5) (by omega)).trans p5)))) (by omega) (by omega) (by omega) (by omega) (fun i hi => absurd hi (by omega)) (by decide) (Nat.le_of_ble_eq_true rfl) ?_
  rw [va_cpy0]
  refine g_vret d_Te_copy_75 rfl ?_ (by decide) (by decide)
  exact ⟨rfl, fun q e0 e1 e2 e3 e4 => ((hu_ne (by omega)).trans ((hu_ne (by omega)).trans ((hu_ne (by omega)).trans ((hu_ne (by omega)).trans ((hf1 q (by omega)).trans rfl))))), rfl, ((hu_ne (by omega)).trans ((hu_ne (by omega)).trans ((hu_ne (by omega)).trans ((hu_ne (by omega)).trans hw1_0)))), ((hu_ne (by omega)).trans ((hu_ne (by omega)).trans ((hu_ne (by omega)).trans (hu_same _ _ _)))), ((hu_ne (by omega)).trans ((hu_ne (by omega)).trans (hu_same _ _ _))), ((hu_ne (by omega)).trans (hu_same _ _ _)), (hu_same _ _ _)⟩
def k_Ro_makeSmall0 : MS := ("VaryStore$Row", b_Ro_makeSmall, 4, none, "makeSmall", { frames := 1, cells := 0, slots := 0, locals := 13 }, [])
set_option maxRecDepth 100000 in
set_option maxHeartbeats 4000000 in
theorem c_Ro_makeSmall0 (Γ : GE) (a : Nat) (x : Nat) {M : HM} {n : Nat}  (p0 : M (a) = some (.inr (2, [.ref (x), .int (iI (0))]))) : CT Γ k_Ro_makeSmall0 y_Ro_makeSmall [.ref (a), .int (iI (0)), .int (iI (0))] M (n) (fun v M' n' => n = n' ∧ (∀ q, M' q = M q) ∧ v = none) := by
  refine CT.of (by decide) rfl rfl 1 rfl (Nat.le_of_ble_eq_true rfl) rfl ?_
  refine g_iconst d_Ro_makeSmall_0 ?_
  refine g_iload_n d_Ro_makeSmall_1 rfl ?_
  refine g_max d_Ro_makeSmall_2 w_262 w_263 w_38 w_264 (by decide) (Nat.le_of_ble_eq_true rfl) (by decide) (by decide) (by omega) (by omega) (by omega) (by omega) ?_
  refine g_istore_n d_Ro_makeSmall_5 (by decide) rfl ?_
  refine g_iload_n d_Ro_makeSmall_6 rfl ?_
  refine g_iload_n d_Ro_makeSmall_7 rfl ?_
  refine g_icmp_ge (tgt := 40) d_Ro_makeSmall_8 (by decide) (fun _ => ?_) (fun h1 => False.elim (by omega))
  refine g_vret d_Ro_makeSmall_40 rfl ?_ (by decide) (by decide)
  exact ⟨rfl, fun q  => rfl, rfl⟩
def k_It_makeSmall0 : MS := ("VaryStore$Items", b_It_makeSmall, 1, none, "makeSmall", { frames := 2, cells := 0, slots := 0, locals := 36 }, [])
set_option maxRecDepth 100000 in
set_option maxHeartbeats 4000000 in
theorem c_It_makeSmall0 (Γ : GE) (s : Nat) (e : Nat) (cc : Int) (x : Nat) {M : HM} {n : Nat}  (p0 : M (s) = some (.inr (1, [.ref (s + 1), .ref (e), .int (iI (cc))]))) (p1 : M (s + 1) = some (.inr (2, [.ref (x), .int (iI (0))]))) : CT Γ k_It_makeSmall0 y_It_makeSmall [.ref (s)] M (n) (fun v M' n' => n = n' ∧ (∀ q, M' q = M q) ∧ v = none) := by
  refine CT.of (by decide) rfl rfl 0 rfl (Nat.le_of_ble_eq_true rfl) rfl ?_
  refine g_aload_n d_It_makeSmall_0 rfl ?_
  refine g_get fa_It_12 d_It_makeSmall_1 p0 rfl ?_
  refine g_iconst d_It_makeSmall_4 ?_
  refine g_aload_n d_It_makeSmall_5 rfl ?_
  refine g_get fa_It_12 d_It_makeSmall_6 p0 rfl ?_
  refine g_get fa_It_29 d_It_makeSmall_9 p1 rfl ?_
  refine g_callV2 (ν := k_Ro_makeSmall0) ⟨w_598, w_31, w_261, by decide, by decide, by decide +kernel⟩ w_259 w_260 (c_Ro_makeSmall0 Γ (s + 1) (x)  p1) d_It_makeSmall_12 p1 rfl rfl ⟨⟨by decide, by decide⟩, ⟨by decide, by decide⟩⟩ (Nat.le_of_ble_eq_true rfl) (fun v1 M1 n1 hQ1 hn1 hd1 => ?_)
  obtain ⟨rfl, hf1, rfl⟩ := hQ1
  refine g_vret d_It_makeSmall_15 rfl ?_ (by decide) (by decide)
  exact ⟨rfl, fun q  => ((hf1 q ).trans rfl), rfl⟩
def k_Sh_spare0 : MS := ("VaryStore$Shelf", b_Sh_spare, 2, (some (.object "VaryStore$Thing")), "spare", { frames := 4, cells := 13, slots := 1377, locals := 72 }, [])
set_option maxRecDepth 100000 in
set_option maxHeartbeats 4000000 in
theorem c_Sh_spare0 (Γ : GE) (s : Nat) (cc : Int) (u : Int) {M : HM} {n : Nat} (hsn : s + 2 ≤ n) (p0 : M (s) = some (.inr (3, [.ref (s + 1), .int (iI (cc)), .int (iI (u))]))) (p1 : M (s + 1) = some (.inl (Γ.2.2.1 2, 25, .inr (.inr (.inr (.inr (fun _ => none))))))) : CT Γ k_Sh_spare0 y_Sh_spare [.ref (s)] M (n) (fun v M' n' => n + 13 = n' ∧ (∀ q, q ≠ n → q ≠ n + 1 → q ≠ n + 2 → q ≠ n + 3 → q ≠ n + 4 → q ≠ n + 5 → q ≠ n + 6 → q ≠ n + 7 → q ≠ n + 8 → q ≠ n + 9 → q ≠ n + 10 → q ≠ n + 11 → q ≠ n + 12 → q ≠ s + 1 → M' q = M q) ∧ v = some (.ref (n)) ∧ M' (n) = some (.inr (5, [.ref (n + 1), .ref (n + 3), .ref (n + 7), .int (iI (0)), .int (iI ((-2))), .int (iI ((-2))), .int (iI (0)), .int (iI (0)), .int (iI (0)), .int (iI (0)), .int (iI (0)), .int (iI (0)), .int (iI (0))])) ∧ M' (n + 1) = some (.inr (2, [.ref (n + 2), .int (iI (0))])) ∧ M' (n + 2) = some (.inl (Γ.2.2.1 0, 300, .inl (fun _ => iI 0))) ∧ M' (n + 3) = some (.inr (1, [.ref (n + 4), .ref (n + 6), .int (iI (0))])) ∧ M' (n + 4) = some (.inr (2, [.ref (n + 5), .int (iI (0))])) ∧ M' (n + 5) = some (.inl (Γ.2.2.1 0, 300, .inl (fun _ => iI 0))) ∧ M' (n + 6) = some (.inl (Γ.2.2.1 1, 150, .inl (fun _ => iI 0))) ∧ M' (n + 7) = some (.inr (4, [.ref (n + 8), .ref (n + 10), .ref (n + 11), .ref (n + 12), .int (iI (0))])) ∧ M' (n + 8) = some (.inr (2, [.ref (n + 9), .int (iI (0))])) ∧ M' (n + 9) = some (.inl (Γ.2.2.1 0, 300, .inl (fun _ => iI 0))) ∧ M' (n + 10) = some (.inl (Γ.2.2.1 1, 100, .inl (fun _ => iI 0))) ∧ M' (n + 11) = some (.inl (Γ.2.2.1 1, 100, .inl (fun _ => iI 0))) ∧ M' (n + 12) = some (.inl (Γ.2.2.1 1, 100, .inl (fun _ => iI 0))) ∧ M' (s + 1) = some (.inl (Γ.2.2.1 2, 25, .inr (.inr (.inr (.inr (va_up (fun _ => none) (24 : Int).toNat (some (n))))))))) := by
  refine CT.of (by decide) rfl rfl 1 rfl (Nat.le_of_ble_eq_true rfl) rfl ?_
  refine g_aload_n d_Sh_spare_0 rfl ?_
  refine g_get fa_Sh_11 d_Sh_spare_1 p0 rfl ?_
  refine g_bipush d_Sh_spare_4 (by decide) ?_
  refine g_aald (v := .null) 2 rfl d_Sh_spare_6 p1 (by omega) (by omega) (by omega) (by first | rfl | simp [va_rf, va_up]) ?_
  refine g_astore_nN d_Sh_spare_7 (by decide) rfl ?_
  refine g_aload_nN d_Sh_spare_8 rfl ?_
  refine g_ifnonnullN d_Sh_spare_9 ?_
  refine g_new (ci := 5) t_Th [.null, .null, .null, .int (iI (0)), .int (iI (0)), .int (iI (0)), .int (iI (0)), .int (iI (0)), .int (iI (0)), .int (iI (0)), .int (iI (0)), .int (iI (0)), .int (iI (0))] rfl uw_Th to_Th (fun j hj => by rcases (show j = 0 ∨ j = 1 ∨ j = 2 ∨ j = 3 ∨ j = 4 ∨ j = 5 ∨ j = 6 ∨ j = 7 ∨ j = 8 ∨ j = 9 ∨ j = 10 ∨ j = 11 ∨ j = 12 by omega) with rfl | rfl | rfl | rfl | rfl | rfl | rfl | rfl | rfl | rfl | rfl | rfl | rfl <;> rfl) d_Sh_spare_12 w_81 w_516 w_47 (by decide) (by decide) ?_
  refine g_dup d_Sh_spare_15 rfl ?_
  refine g_callIN0 (ν := k_Th_init) ⟨⟨"VaryStore", w_517⟩, w_47, w_519, by decide, by decide, by decide +kernel⟩ w_518 rfl rfl (c_Th_init Γ (n)  (hu_same _ _ _)) d_Sh_spare_16 ⟨⟨by decide, by decide⟩, ⟨by decide, by decide⟩⟩ (Nat.le_of_ble_eq_true rfl) (fun v1 M1 n1 hQ1 hn1 hd1 => ?_)
  obtain ⟨rfl, hf1, rfl, hw1_0, hw1_1, hw1_2, hw1_3, hw1_4, hw1_5, hw1_6, hw1_7, hw1_8, hw1_9, hw1_10, hw1_11, hw1_12⟩ := hQ1
  refine g_astore_n d_Sh_spare_19 (by decide) rfl ?_
  refine g_aload_n d_Sh_spare_20 rfl ?_
  refine g_get fa_Sh_11 d_Sh_spare_21 ((hf1 (s) (by omega) (by omega) (by omega) (by omega) (by omega) (by omega) (by omega) (by omega) (by omega) (by omega) (by omega) (by omega) (by omega)).trans ((hu_ne (by omega)).trans p0)) rfl ?_
  refine g_bipush d_Sh_spare_24 (by decide) ?_
  refine g_aload_n d_Sh_spare_26 rfl ?_
  refine g_aast 2 (ci := 5) rfl rfl d_Sh_spare_27 ((hf1 (s + 1) (by omega) (by omega) (by omega) (by omega) (by omega) (by omega) (by omega) (by omega) (by omega) (by omega) (by omega) (by omega) (by omega)).trans ((hu_ne (by omega)).trans p1)) hw1_2 (by omega) (by omega) (by omega) ?_
  refine g_aload_n d_Sh_spare_28 rfl ?_
  refine g_aret (rt := (.object "VaryStore$Thing")) (by first | exact Or.inl ⟨_, rfl⟩ | exact Or.inr ⟨_, rfl⟩) (by first | exact Or.inl rfl | exact Or.inr ⟨_, rfl⟩) d_Sh_spare_29 rfl ?_ (by decide) (by decide)
  exact ⟨rfl, fun q e0 e1 e2 e3 e4 e5 e6 e7 e8 e9 e10 e11 e12 e13 => ((hu_ne (by omega)).trans ((hf1 q (by omega) (by omega) (by omega) (by omega) (by omega) (by omega) (by omega) (by omega) (by omega) (by omega) (by omega) (by omega) (by omega)).trans ((hu_ne (by omega)).trans rfl))), rfl, ((hu_ne (by omega)).trans hw1_2), ((hu_ne (by omega)).trans hw1_0), ((hu_ne (by omega)).trans hw1_1), ((hu_ne (by omega)).trans hw1_3), ((hu_ne (by omega)).trans hw1_4), ((hu_ne (by omega)).trans hw1_5), ((hu_ne (by omega)).trans hw1_6), ((hu_ne (by omega)).trans hw1_7), ((hu_ne (by omega)).trans hw1_8), ((hu_ne (by omega)).trans hw1_9), ((hu_ne (by omega)).trans hw1_10), ((hu_ne (by omega)).trans hw1_11), ((hu_ne (by omega)).trans hw1_12), (hu_same _ _ _)⟩
def k_Th_obey0 : MS := ("VaryStore$Thing", b_Th_obey, 2, none, "obey", { frames := 2, cells := 0, slots := 0, locals := 45 }, [])
set_option maxRecDepth 100000 in
set_option maxHeartbeats 4000000 in
theorem c_Th_obey0 (Γ : GE) (t : Nat) (s : Nat) (ph : Int) (t1 : Int) (t2 : Int) (t3 : Int) (t4 : Int) (t5 : Int) (t6 : Int) (t7 : Int) (t8 : Int) (t9 : Int) (r : Nat) (e : Nat) {M : HM} {n : Nat} (hts : t ≠ s) (p0 : M (t) = some (.inr (5, [.ref (t + 1), .ref (t + 3), .ref (t + 7), .int (iI (ph)), .int (iI (t1)), .int (iI (t2)), .int (iI (t3)), .int (iI (t4)), .int (iI (t5)), .int (iI (t6)), .int (iI (t7)), .int (iI (t8)), .int (iI (t9))]))) (p1 : M (s) = some (.inr (1, [.ref (r), .ref (e), .int (iI (0))]))) : CT Γ k_Th_obey0 y_Th_obey [.ref (t), .ref (s)] M (n) (fun v M' n' => n = n' ∧ (∀ q, q ≠ t → M' q = M q) ∧ v = none ∧ M' (t) = some (.inr (5, [.ref (t + 1), .ref (t + 3), .ref (t + 7), .int (iI (ph)), .int (iI ((-2))), .int (iI ((-2))), .int (iI (0)), .int (iI (0)), .int (iI (0)), .int (iI (t6)), .int (iI (t7)), .int (iI (t8)), .int (iI (t9))]))) := by
  refine CT.of (by decide) rfl rfl 0 rfl (Nat.le_of_ble_eq_true rfl) rfl ?_
  refine g_aload_n d_Th_obey_0 rfl ?_
  refine g_aload_n d_Th_obey_1 rfl ?_
  refine g_ldcS (text := "s-maxage") (lit := 18) (by decide) d_Th_obey_2 ?_
  refine g_callV1 (ν := k_It_said0) ⟨w_604, w_34, w_471, by decide, by decide, by decide +kernel⟩ w_469 w_470 (c_It_said0 Γ (s) (18) (r) (e)  p1) d_Th_obey_4 p1 rfl rfl ⟨⟨by decide, by decide⟩, ⟨by decide, by decide⟩⟩ (Nat.le_of_ble_eq_true rfl) (fun v1 M1 n1 hQ1 hn1 hd1 => ?_)
  obtain ⟨rfl, hf1, rfl⟩ := hQ1
  refine g_put fa_Th_36 d_Th_obey_7 ((hf1 (t) ).trans p0) (Nat.le_of_ble_eq_true rfl) rfl rfl rfl ?_
  refine g_aload_n d_Th_obey_10 rfl ?_
  refine g_aload_n d_Th_obey_11 rfl ?_
  refine g_ldcS (text := "max-age") (lit := 14) (by decide) d_Th_obey_12 ?_
  refine g_callV1 (ν := k_It_said0) ⟨w_604, w_34, w_471, by decide, by decide, by decide +kernel⟩ w_469 w_470 (c_It_said0 Γ (s) (14) (r) (e)  ((hu_ne (by omega)).trans ((hf1 (s) ).trans p1))) d_Th_obey_14 ((hu_ne (by omega)).trans ((hf1 (s) ).trans p1)) rfl rfl ⟨⟨by decide, by decide⟩, ⟨by decide, by decide⟩⟩ (Nat.le_of_ble_eq_true rfl) (fun v2 M2 n2 hQ2 hn2 hd2 => ?_)
  obtain ⟨rfl, hf2, rfl⟩ := hQ2
  refine g_put fa_Th_39 d_Th_obey_17 ((hf2 (t) ).trans (hu_same _ _ _)) (Nat.le_of_ble_eq_true rfl) rfl rfl rfl ?_
  refine g_aload_n d_Th_obey_20 rfl ?_
  refine g_aload_n d_Th_obey_21 rfl ?_
  refine g_ldcS (text := "no-store") (lit := 13) (by decide) d_Th_obey_22 ?_
  refine g_callV1 (ν := k_It_has0) ⟨w_607, w_34, w_491, by decide, by decide, by decide +kernel⟩ w_489 w_490 (c_It_has0 Γ (s) (13) (r) (e)  ((hu_ne (by omega)).trans ((hf2 (s) ).trans ((hu_ne (by omega)).trans ((hf1 (s) ).trans p1))))) d_Th_obey_24 ((hu_ne (by omega)).trans ((hf2 (s) ).trans ((hu_ne (by omega)).trans ((hf1 (s) ).trans p1)))) rfl rfl ⟨⟨by decide, by decide⟩, ⟨by decide, by decide⟩⟩ (Nat.le_of_ble_eq_true rfl) (fun v3 M3 n3 hQ3 hn3 hd3 => ?_)
  obtain ⟨rfl, hf3, rfl⟩ := hQ3
  refine g_if_ne (tgt := 39) d_Th_obey_27 (by decide) (fun h4 => False.elim (by omega)) (fun _ => ?_)
  refine g_aload_n d_Th_obey_30 rfl ?_
  refine g_ldcS (text := "private") (lit := 19) (by decide) d_Th_obey_31 ?_
  refine g_callV1 (ν := k_It_has0) ⟨w_607, w_34, w_491, by decide, by decide, by decide +kernel⟩ w_489 w_490 (c_It_has0 Γ (s) (19) (r) (e)  ((hf3 (s) ).trans ((hu_ne (by omega)).trans ((hf2 (s) ).trans ((hu_ne (by omega)).trans ((hf1 (s) ).trans p1)))))) d_Th_obey_33 ((hf3 (s) ).trans ((hu_ne (by omega)).trans ((hf2 (s) ).trans ((hu_ne (by omega)).trans ((hf1 (s) ).trans p1))))) rfl rfl ⟨⟨by decide, by decide⟩, ⟨by decide, by decide⟩⟩ (Nat.le_of_ble_eq_true rfl) (fun v5 M5 n5 hQ5 hn5 hd5 => ?_)
  obtain ⟨rfl, hf5, rfl⟩ := hQ5
  refine g_if_eq (tgt := 43) d_Th_obey_36 (by decide) (fun _ => ?_) (fun h6 => False.elim (by omega))
  refine g_iconst d_Th_obey_43 ?_
  refine g_put fa_Th_42 d_Th_obey_44 ((hf5 (t) ).trans ((hf3 (t) ).trans (hu_same _ _ _))) (Nat.le_of_ble_eq_true rfl) rfl (by first | rfl | decide) rfl ?_
  refine g_aload_n d_Th_obey_47 rfl ?_
  refine g_aload_n d_Th_obey_48 rfl ?_
  refine g_ldcS (text := "no-cache") (lit := 15) (by decide) d_Th_obey_49 ?_
  refine g_callV1 (ν := k_It_has0) ⟨w_607, w_34, w_491, by decide, by decide, by decide +kernel⟩ w_489 w_490 (c_It_has0 Γ (s) (15) (r) (e)  ((hu_ne (by omega)).trans ((hf5 (s) ).trans ((hf3 (s) ).trans ((hu_ne (by omega)).trans ((hf2 (s) ).trans ((hu_ne (by omega)).trans ((hf1 (s) ).trans p1)))))))) d_Th_obey_51 ((hu_ne (by omega)).trans ((hf5 (s) ).trans ((hf3 (s) ).trans ((hu_ne (by omega)).trans ((hf2 (s) ).trans ((hu_ne (by omega)).trans ((hf1 (s) ).trans p1))))))) rfl rfl ⟨⟨by decide, by decide⟩, ⟨by decide, by decide⟩⟩ (Nat.le_of_ble_eq_true rfl) (fun v7 M7 n7 hQ7 hn7 hd7 => ?_)
  obtain ⟨rfl, hf7, rfl⟩ := hQ7
  refine g_put fa_Th_46 d_Th_obey_54 ((hf7 (t) ).trans (hu_same _ _ _)) (Nat.le_of_ble_eq_true rfl) rfl (by first | rfl | decide) rfl ?_
  refine g_aload_n d_Th_obey_57 rfl ?_
  refine g_aload_n d_Th_obey_58 rfl ?_
  refine g_get fa_Th_46 d_Th_obey_59 (hu_same _ _ _) rfl ?_
  refine g_if_ne (tgt := 92) d_Th_obey_62 (by decide) (fun h8 => False.elim (by omega)) (fun _ => ?_)
  refine g_aload_n d_Th_obey_65 rfl ?_
  refine g_get fa_Th_36 d_Th_obey_66 (hu_same _ _ _) rfl ?_
  refine g_bipush d_Th_obey_69 (by decide) ?_
  refine g_icmp_ne (tgt := 92) d_Th_obey_71 (by decide) (fun h9 => False.elim (by omega)) (fun _ => ?_)
  refine g_aload_n d_Th_obey_74 rfl ?_
  refine g_ldcS (text := "must-revalidate") (lit := 20) (by decide) d_Th_obey_75 ?_
  refine g_callV1 (ν := k_It_has0) ⟨w_607, w_34, w_491, by decide, by decide, by decide +kernel⟩ w_489 w_490 (c_It_has0 Γ (s) (20) (r) (e)  ((hu_ne (by omega)).trans ((hf7 (s) ).trans ((hu_ne (by omega)).trans ((hf5 (s) ).trans ((hf3 (s) ).trans ((hu_ne (by omega)).trans ((hf2 (s) ).trans ((hu_ne (by omega)).trans ((hf1 (s) ).trans p1)))))))))) d_Th_obey_77 ((hu_ne (by omega)).trans ((hf7 (s) ).trans ((hu_ne (by omega)).trans ((hf5 (s) ).trans ((hf3 (s) ).trans ((hu_ne (by omega)).trans ((hf2 (s) ).trans ((hu_ne (by omega)).trans ((hf1 (s) ).trans p1))))))))) rfl rfl ⟨⟨by decide, by decide⟩, ⟨by decide, by decide⟩⟩ (Nat.le_of_ble_eq_true rfl) (fun v10 M10 n10 hQ10 hn10 hd10 => ?_)
  obtain ⟨rfl, hf10, rfl⟩ := hQ10
  refine g_if_ne (tgt := 92) d_Th_obey_80 (by decide) (fun h11 => False.elim (by omega)) (fun _ => ?_)
  refine g_aload_n d_Th_obey_83 rfl ?_
  refine g_ldcS (text := "proxy-revalidate") (lit := 21) (by decide) d_Th_obey_84 ?_
  refine g_callV1 (ν := k_It_has0) ⟨w_607, w_34, w_491, by decide, by decide, by decide +kernel⟩ w_489 w_490 (c_It_has0 Γ (s) (21) (r) (e)  ((hf10 (s) ).trans ((hu_ne (by omega)).trans ((hf7 (s) ).trans ((hu_ne (by omega)).trans ((hf5 (s) ).trans ((hf3 (s) ).trans ((hu_ne (by omega)).trans ((hf2 (s) ).trans ((hu_ne (by omega)).trans ((hf1 (s) ).trans p1))))))))))) d_Th_obey_86 ((hf10 (s) ).trans ((hu_ne (by omega)).trans ((hf7 (s) ).trans ((hu_ne (by omega)).trans ((hf5 (s) ).trans ((hf3 (s) ).trans ((hu_ne (by omega)).trans ((hf2 (s) ).trans ((hu_ne (by omega)).trans ((hf1 (s) ).trans p1)))))))))) rfl rfl ⟨⟨by decide, by decide⟩, ⟨by decide, by decide⟩⟩ (Nat.le_of_ble_eq_true rfl) (fun v12 M12 n12 hQ12 hn12 hd12 => ?_)
  obtain ⟨rfl, hf12, rfl⟩ := hQ12
  refine g_if_eq (tgt := 96) d_Th_obey_89 (by decide) (fun _ => ?_) (fun h13 => False.elim (by omega))
  refine g_iconst d_Th_obey_96 ?_
  refine g_put fa_Th_49 d_Th_obey_97 ((hf12 (t) ).trans ((hf10 (t) ).trans (hu_same _ _ _))) (Nat.le_of_ble_eq_true rfl) rfl (by first | rfl | decide) rfl ?_
  refine g_vret d_Th_obey_100 rfl ?_ (by decide) (by decide)
  exact ⟨rfl, fun q e0 => ((hu_ne (by omega)).trans ((hf12 q ).trans ((hf10 q ).trans ((hu_ne (by omega)).trans ((hf7 q ).trans ((hu_ne (by omega)).trans ((hf5 q ).trans ((hf3 q ).trans ((hu_ne (by omega)).trans ((hf2 q ).trans ((hu_ne (by omega)).trans ((hf1 q ).trans rfl)))))))))))), rfl, (hu_same _ _ _)⟩
def k_VS_describe0 : MS := ("VaryStore", b_VS_describe, 3, none, "describe", { frames := 7, cells := 0, slots := 0, locals := 153 }, [])
set_option maxRecDepth 100000 in
set_option maxHeartbeats 4000000 in
theorem c_VS_describe0 (Γ : GE) (b : Nat) (fp : Int) (tm : Int) (t : Nat) (path : Int) (ph : Int) (t1 : Int) (t2 : Int) (t3 : Int) (t4 : Int) (t5 : Int) (t6 : Int) (t7 : Int) (t8 : Int) (t9 : Int) (z : Int) (w : Int) (cc : Int) (zv : Int) (ze : Int) (ln : Int) (zt : Int) (f : Nat → Int32) (fv : Nat → Int32) (fr : Nat → Int32) (fa : Nat → Int32) (fb : Nat → Int32) (fc : Nat → Int32) (ge : Nat → Int32) (g1 : Nat → Int32) (g2 : Nat → Int32) (g3 : Nat → Int32) (g4 : Nat → Int32) (y : Nat) {M : HM} {n : Nat} (ht : b + 33 ≤ t) (p0 : M (b) = some (.inr (0, [.ref (b + 1), .ref (b + 3), .ref (b + 5), .ref (b + 11), .int (iI (fp)), .int (iI (tm)), .ref (b + 17), .ref (b + 19), .ref (b + 21), .ref (b + 25), .ref (b + 29)]))) (p1 : M (b + 5) = some (.inr (4, [.ref (b + 6), .ref (b + 8), .ref (b + 9), .ref (b + 10), .int (iI (0))]))) (p2 : M (b + 6) = some (.inr (2, [.ref (b + 7), .int (iI (0))]))) (p3 : M (b + 6 + 1) = some (.inl (Γ.2.2.1 0, 300, .inl (fr)))) (p4 : M (b + 5 + 3) = some (.inl (Γ.2.2.1 1, 100, .inl (fa)))) (p5 : M (b + 5 + 4) = some (.inl (Γ.2.2.1 1, 100, .inl (fb)))) (p6 : M (b + 5 + 5) = some (.inl (Γ.2.2.1 1, 100, .inl (fc)))) (p7 : M (b + 11) = some (.inr (4, [.ref (b + 12), .ref (b + 14), .ref (b + 15), .ref (b + 16), .int (iI (0))]))) (p8 : M (b + 17) = some (.inr (2, [.ref (b + 18), .int (iI (z))]))) (p9 : M (b + 17 + 1) = some (.inl (Γ.2.2.1 0, 300, .inl (f)))) (p10 : M (b + 19) = some (.inr (2, [.ref (b + 20), .int (iI (w))]))) (p11 : M (b + 19 + 1) = some (.inl (Γ.2.2.1 0, 300, .inl (fv)))) (p12 : M (t) = some (.inr (5, [.ref (t + 1), .ref (t + 3), .ref (t + 7), .int (iI (ph)), .int (iI (t1)), .int (iI (t2)), .int (iI (t3)), .int (iI (t4)), .int (iI (t5)), .int (iI (t6)), .int (iI (t7)), .int (iI (t8)), .int (iI (t9))]))) (p13 : M (t + 1) = some (.inr (2, [.ref (t + 2), .int (iI (ze))]))) (p14 : M (t + 1 + 1) = some (.inl (Γ.2.2.1 0, 300, .inl (ge)))) (p15 : M (t + 3) = some (.inr (1, [.ref (t + 4), .ref (t + 6), .int (iI (cc))]))) (p16 : M (t + 4) = some (.inr (2, [.ref (y), .int (iI (zv))]))) (p17 : M (t + 7) = some (.inr (4, [.ref (t + 8), .ref (t + 10), .ref (t + 11), .ref (t + 12), .int (iI (ln))]))) (p18 : M (t + 8) = some (.inr (2, [.ref (t + 9), .int (iI (zt))]))) (p19 : M (t + 8 + 1) = some (.inl (Γ.2.2.1 0, 300, .inl (g4)))) (p20 : M (t + 7 + 3) = some (.inl (Γ.2.2.1 1, 100, .inl (g1)))) (p21 : M (t + 7 + 4) = some (.inl (Γ.2.2.1 1, 100, .inl (g2)))) (p22 : M (t + 7 + 5) = some (.inl (Γ.2.2.1 1, 100, .inl (g3)))) : CT Γ k_VS_describe0 y_VS_describe [.ref (b), .ref (t), .int (iI (path))] M (n) (fun v M' n' => n = n' ∧ (∀ q, q ≠ t → q ≠ t + 8 → q ≠ t + 7 → q ≠ t + 10 → q ≠ t + 11 → q ≠ t + 12 → q ≠ b + 17 → q ≠ b + 18 → q ≠ b + 19 → q ≠ t + 1 → q ≠ t + 4 → q ≠ t + 3 → M' q = M q) ∧ ∃ (zs4x0 : Int) (fs4x1 : Nat → Int32), v = none ∧ 0 ≤ zs4x0 ∧ zs4x0 ≤ 40 ∧ M' (t) = some (.inr (5, [.ref (t + 1), .ref (t + 3), .ref (t + 7), .int (iI (path)), .int (iI (t1)), .int (iI (t2)), .int (iI (t3)), .int (iI (t4)), .int (iI (t5)), .int (iI (t6)), .int (iI (t7)), .int (iI (t8)), .int (iI (t9))])) ∧ M' (t + 8) = some (.inr (2, [.ref (t + 9), .int (iI (0))])) ∧ M' (t + 7) = some (.inr (4, [.ref (t + 8), .ref (t + 10), .ref (t + 11), .ref (t + 12), .int (iI (0))])) ∧ M' (t + 10) = some (.inl (Γ.2.2.1 1, 100, .inl (g1))) ∧ M' (t + 11) = some (.inl (Γ.2.2.1 1, 100, .inl (g2))) ∧ M' (t + 12) = some (.inl (Γ.2.2.1 1, 100, .inl (g3))) ∧ M' (b + 17) = some (.inr (2, [.ref (b + 18), .int (iI (zs4x0))])) ∧ M' (b + 18) = some (.inl (Γ.2.2.1 0, 300, .inl (fs4x1))) ∧ M' (b + 19) = some (.inr (2, [.ref (b + 20), .int (iI (0))])) ∧ M' (t + 1) = some (.inr (2, [.ref (t + 2), .int (iI (0))])) ∧ M' (t + 4) = some (.inr (2, [.ref (y), .int (iI (0))])) ∧ M' (t + 3) = some (.inr (1, [.ref (t + 4), .ref (t + 6), .int (iI (0))]))) := by
  refine CT.of (by decide) rfl rfl 0 rfl (Nat.le_of_ble_eq_true rfl) rfl ?_
  refine g_aload_n d_VS_describe_0 rfl ?_
  refine g_iload_n d_VS_describe_1 rfl ?_
  refine g_put fa_VS_158 d_VS_describe_2 p12 (Nat.le_of_ble_eq_true rfl) rfl rfl rfl ?_
  refine g_aload_n d_VS_describe_5 rfl ?_
  refine g_get fa_VS_226 d_VS_describe_6 (hu_same _ _ _) rfl ?_
  refine g_aload_n d_VS_describe_9 rfl ?_
  refine g_get fa_VS_26 d_VS_describe_10 ((hu_ne (by omega)).trans p0) rfl ?_
  refine g_callV1 (ν := k_Te_copy0) ⟨w_583, w_33, w_586, by decide, by decide, by decide +kernel⟩ w_584 w_585 (c_Te_copy0 Γ (t + 7) (b + 5) (ln) (zt) (g4) (fr) (g1) (g2) (g3) (fa) (fb) (fc) (by omega) ((hu_ne (by omega)).trans p17) ((hu_ne (by omega)).trans p18) ((hu_ne (by omega)).trans p19) ((hu_ne (by omega)).trans p20) ((hu_ne (by omega)).trans p21) ((hu_ne (by omega)).trans p22) ((hu_ne (by omega)).trans p1) ((hu_ne (by omega)).trans p2) ((hu_ne (by omega)).trans p3) ((hu_ne (by omega)).trans p4) ((hu_ne (by omega)).trans p5) ((hu_ne (by omega)).trans p6)) d_VS_describe_13 ((hu_ne (by omega)).trans p17) rfl rfl ⟨⟨by decide, by decide⟩, ⟨by decide, by decide⟩⟩ (Nat.le_of_ble_eq_true rfl) (fun v1 M1 n1 hQ1 hn1 hd1 => ?_)
  obtain ⟨rfl, hf1, rfl, hw1_0, hw1_1, hw1_2, hw1_3, hw1_4⟩ := hQ1
  refine g_aload_n d_VS_describe_16 rfl ?_
  refine g_aload_n d_VS_describe_17 rfl ?_
  refine g_get fa_VS_30 d_VS_describe_18 ((hf1 (b) (by omega) (by omega) (by omega) (by omega) (by omega)).trans ((hu_ne (by omega)).trans p0)) rfl ?_
  refine g_ldcS (text := "etag") (lit := 2) (by decide) d_VS_describe_21 ?_
  refine g_callV2 (ν := k_VS_gather0) ⟨w_339, w_30, w_342, by decide, by decide, by decide +kernel⟩ w_341 w_5 (c_VS_gather0 Γ (b) (b + 5) (b + 11) (fp) (tm) (b + 11) (2) (z) (f) (w) (b + 20) (by first | omega | decide | (have h9 := lenLit_le 2; omega)) (by first | omega | decide | (have h9 := lenLit_le 2; omega)) ((hf1 (b) (by omega) (by omega) (by omega) (by omega) (by omega)).trans ((hu_ne (by omega)).trans p0)) ((hf1 (b + 17) (by omega) (by omega) (by omega) (by omega) (by omega)).trans ((hu_ne (by omega)).trans p8)) ((hf1 (b + 17 + 1) (by omega) (by omega) (by omega) (by omega) (by omega)).trans ((hu_ne (by omega)).trans p9)) ((hf1 (b + 19) (by omega) (by omega) (by omega) (by omega) (by omega)).trans ((hu_ne (by omega)).trans p10)) ((hf1 ((b + 11)) (by omega) (by omega) (by omega) (by omega) (by omega)).trans ((hu_ne (by omega)).trans p7))) d_VS_describe_23 ((hf1 (b) (by omega) (by omega) (by omega) (by omega) (by omega)).trans ((hu_ne (by omega)).trans p0)) rfl rfl ⟨⟨by decide, by decide⟩, ⟨by decide, by decide⟩⟩ (Nat.le_of_ble_eq_true rfl) (fun v2 M2 n2 hQ2 hn2 hd2 => ?_)
  obtain ⟨rfl, hf2, zs2x0, fs2x1, rfl, hb2_zs2x0_0, hb2_zs2x0_1, hw2_0, hw2_1, hw2_2⟩ := hQ2
  refine g_pop d_VS_describe_26 rfl ?_
  refine g_aload_n d_VS_describe_27 rfl ?_
  refine g_get fa_VS_149 d_VS_describe_28 ((hf2 (t) (by omega) (by omega) (by omega)).trans ((hf1 (t) (by omega) (by omega) (by omega) (by omega) (by omega)).trans (hu_same _ _ _))) rfl ?_
  refine g_aload_n d_VS_describe_31 rfl ?_
  refine g_get fa_VS_43 d_VS_describe_32 ((hf2 (b) (by omega) (by omega) (by omega)).trans ((hf1 (b) (by omega) (by omega) (by omega) (by omega) (by omega)).trans ((hu_ne (by omega)).trans p0))) rfl ?_
  refine g_callV1 (ν := k_Ro_copy0) ⟨w_592, w_31, w_229, by decide, by decide, by decide +kernel⟩ w_227 w_228 (c_Ro_copy0 Γ (t + 1) (b + 19) (ze) (ge) (fv) (by omega) ((hf2 ((t + 1)) (by omega) (by omega) (by omega)).trans ((hf1 ((t + 1)) (by omega) (by omega) (by omega) (by omega) (by omega)).trans ((hu_ne (by omega)).trans p13))) ((hf2 ((t + 1) + 1) (by omega) (by omega) (by omega)).trans ((hf1 ((t + 1) + 1) (by omega) (by omega) (by omega) (by omega) (by omega)).trans ((hu_ne (by omega)).trans p14))) hw2_2 ((hf2 ((b + 19) + 1) (by omega) (by omega) (by omega)).trans ((hf1 ((b + 19) + 1) (by omega) (by omega) (by omega) (by omega) (by omega)).trans ((hu_ne (by omega)).trans p11)))) d_VS_describe_35 ((hf2 (t + 1) (by omega) (by omega) (by omega)).trans ((hf1 (t + 1) (by omega) (by omega) (by omega) (by omega) (by omega)).trans ((hu_ne (by omega)).trans p13))) rfl rfl ⟨⟨by decide, by decide⟩, ⟨by decide, by decide⟩⟩ (Nat.le_of_ble_eq_true rfl) (fun v3 M3 n3 hQ3 hn3 hd3 => ?_)
  obtain ⟨rfl, hf3, rfl, hw3_0⟩ := hQ3
  refine g_aload_n d_VS_describe_38 rfl ?_
  refine g_aload_n d_VS_describe_39 rfl ?_
  refine g_get fa_VS_30 d_VS_describe_40 ((hf3 (b) (by omega)).trans ((hf2 (b) (by omega) (by omega) (by omega)).trans ((hf1 (b) (by omega) (by omega) (by omega) (by omega) (by omega)).trans ((hu_ne (by omega)).trans p0)))) rfl ?_
  refine g_ldcS (text := "vary") (lit := 8) (by decide) d_VS_describe_43 ?_
  refine g_aload_n d_VS_describe_45 rfl ?_
  refine g_get fa_VS_184 d_VS_describe_46 ((hf3 (t) (by omega)).trans ((hf2 (t) (by omega) (by omega) (by omega)).trans ((hf1 (t) (by omega) (by omega) (by omega) (by omega) (by omega)).trans (hu_same _ _ _)))) rfl ?_
  refine g_callV3 (ν := k_VS_cutList0) ⟨w_335, w_30, w_338, by decide, by decide, by decide +kernel⟩ w_337 w_4 (c_VS_cutList0 Γ (b) (b + 5) (b + 11) (fp) (tm) (b + 11) (8) (t + 3) (zs2x0) (fs2x1) (0) (b + 20) (cc) (zv) (y) (t + 6) (by first | omega | decide | (have h9 := lenLit_le 8; omega)) (by first | omega | decide | (have h9 := lenLit_le 8; omega)) (by first | omega | decide | (have h9 := lenLit_le 8; omega)) ((hf3 (b) (by omega)).trans ((hf2 (b) (by omega) (by omega) (by omega)).trans ((hf1 (b) (by omega) (by omega) (by omega) (by omega) (by omega)).trans ((hu_ne (by omega)).trans p0)))) ((hf3 (b + 17) (by omega)).trans hw2_0) ((hf3 (b + 17 + 1) (by omega)).trans hw2_1) ((hf3 (b + 19) (by omega)).trans hw2_2) ((hf3 ((b + 11)) (by omega)).trans ((hf2 ((b + 11)) (by omega) (by omega) (by omega)).trans ((hf1 ((b + 11)) (by omega) (by omega) (by omega) (by omega) (by omega)).trans ((hu_ne (by omega)).trans p7)))) ((hf3 ((t + 3)) (by omega)).trans ((hf2 ((t + 3)) (by omega) (by omega) (by omega)).trans ((hf1 ((t + 3)) (by omega) (by omega) (by omega) (by omega) (by omega)).trans ((hu_ne (by omega)).trans p15)))) ((hf3 ((t + 3) + 1) (by omega)).trans ((hf2 ((t + 3) + 1) (by omega) (by omega) (by omega)).trans ((hf1 ((t + 3) + 1) (by omega) (by omega) (by omega) (by omega) (by omega)).trans ((hu_ne (by omega)).trans p16))))) d_VS_describe_49 ((hf3 (b) (by omega)).trans ((hf2 (b) (by omega) (by omega) (by omega)).trans ((hf1 (b) (by omega) (by omega) (by omega) (by omega) (by omega)).trans ((hu_ne (by omega)).trans p0)))) rfl rfl ⟨⟨by decide, by decide⟩, ⟨by decide, by decide⟩⟩ (Nat.le_of_ble_eq_true rfl) (fun v4 M4 n4 hQ4 hn4 hd4 => ?_)
  obtain ⟨rfl, hf4, zs4x0, fs4x1, rfl, hb4_zs4x0_0, hb4_zs4x0_1, hw4_0, hw4_1, hw4_2, hw4_3, hw4_4⟩ := hQ4
  refine g_pop d_VS_describe_52 rfl ?_
  refine g_aload_n d_VS_describe_53 rfl ?_
  refine g_get fa_VS_184 d_VS_describe_54 ((hf4 (t) (by omega) (by omega) (by omega) (by omega) (by omega)).trans ((hf3 (t) (by omega)).trans ((hf2 (t) (by omega) (by omega) (by omega)).trans ((hf1 (t) (by omega) (by omega) (by omega) (by omega) (by omega)).trans (hu_same _ _ _))))) rfl ?_
  refine g_callV0 (ν := k_It_makeSmall0) ⟨w_594, w_34, w_597, by decide, by decide, by decide +kernel⟩ w_595 w_596 (c_It_makeSmall0 Γ (t + 3) (t + 6) (0) (y)  hw4_4 hw4_3) d_VS_describe_57 hw4_4 rfl rfl ⟨⟨by decide, by decide⟩, ⟨by decide, by decide⟩⟩ (Nat.le_of_ble_eq_true rfl) (fun v5 M5 n5 hQ5 hn5 hd5 => ?_)
  obtain ⟨rfl, hf5, rfl⟩ := hQ5
  refine g_vret d_VS_describe_60 rfl ?_ (by decide) (by decide)
  exact ⟨rfl, fun q e0 e1 e2 e3 e4 e5 e6 e7 e8 e9 e10 e11 => ((hf5 q ).trans ((hf4 q (by omega) (by omega) (by omega) (by omega) (by omega)).trans ((hf3 q (by omega)).trans ((hf2 q (by omega) (by omega) (by omega)).trans ((hf1 q (by omega) (by omega) (by omega) (by omega) (by omega)).trans ((hu_ne (by omega)).trans rfl)))))), zs4x0, fs4x1, rfl, hb4_zs4x0_0, hb4_zs4x0_1, ((hf5 (t) ).trans ((hf4 (t) (by omega) (by omega) (by omega) (by omega) (by omega)).trans ((hf3 (t) (by omega)).trans ((hf2 (t) (by omega) (by omega) (by omega)).trans ((hf1 (t) (by omega) (by omega) (by omega) (by omega) (by omega)).trans (hu_same _ _ _)))))), ((hf5 (t + 8) ).trans ((hf4 (t + 8) (by omega) (by omega) (by omega) (by omega) (by omega)).trans ((hf3 (t + 8) (by omega)).trans ((hf2 (t + 8) (by omega) (by omega) (by omega)).trans hw1_0)))), ((hf5 (t + 7) ).trans ((hf4 (t + 7) (by omega) (by omega) (by omega) (by omega) (by omega)).trans ((hf3 (t + 7) (by omega)).trans ((hf2 (t + 7) (by omega) (by omega) (by omega)).trans hw1_1)))), ((hf5 (t + 10) ).trans ((hf4 (t + 10) (by omega) (by omega) (by omega) (by omega) (by omega)).trans ((hf3 (t + 10) (by omega)).trans ((hf2 (t + 10) (by omega) (by omega) (by omega)).trans hw1_2)))), ((hf5 (t + 11) ).trans ((hf4 (t + 11) (by omega) (by omega) (by omega) (by omega) (by omega)).trans ((hf3 (t + 11) (by omega)).trans ((hf2 (t + 11) (by omega) (by omega) (by omega)).trans hw1_3)))), ((hf5 (t + 12) ).trans ((hf4 (t + 12) (by omega) (by omega) (by omega) (by omega) (by omega)).trans ((hf3 (t + 12) (by omega)).trans ((hf2 (t + 12) (by omega) (by omega) (by omega)).trans hw1_4)))), ((hf5 (b + 17) ).trans hw4_0), ((hf5 (b + 18) ).trans hw4_1), ((hf5 (b + 19) ).trans hw4_2), ((hf5 (t + 1) ).trans ((hf4 (t + 1) (by omega) (by omega) (by omega) (by omega) (by omega)).trans hw3_0)), ((hf5 (t + 4) ).trans hw4_3), ((hf5 (t + 3) ).trans hw4_4)⟩
def k_VS_startLife0 : MS := ("VaryStore", b_VS_startLife, 4, none, "startLife", { frames := 7, cells := 0, slots := 0, locals := 150 }, [])
set_option maxRecDepth 100000 in
set_option maxHeartbeats 4000000 in
theorem c_VS_startLife0 (Γ : GE) (b : Nat) (fp : Int) (tm : Int) (t : Nat) (ph : Int) (t6 : Int) (t7 : Int) (t8 : Int) (t9 : Int) (z : Int) (w : Int) (f : Nat → Int32) (fv : Nat → Int32) {M : HM} {n : Nat} (ht : b + 33 ≤ t) (p0 : M (b) = some (.inr (0, [.ref (b + 1), .ref (b + 3), .ref (b + 5), .ref (b + 11), .int (iI (fp)), .int (iI (tm)), .ref (b + 17), .ref (b + 19), .ref (b + 21), .ref (b + 25), .ref (b + 29)]))) (p1 : M (b + 11) = some (.inr (4, [.ref (b + 12), .ref (b + 14), .ref (b + 15), .ref (b + 16), .int (iI (0))]))) (p2 : M (b + 17) = some (.inr (2, [.ref (b + 18), .int (iI (z))]))) (p3 : M (b + 17 + 1) = some (.inl (Γ.2.2.1 0, 300, .inl (f)))) (p4 : M (b + 19) = some (.inr (2, [.ref (b + 20), .int (iI (w))]))) (p5 : M (b + 19 + 1) = some (.inl (Γ.2.2.1 0, 300, .inl (fv)))) (p6 : M (t) = some (.inr (5, [.ref (t + 1), .ref (t + 3), .ref (t + 7), .int (iI (ph)), .int (iI ((-2))), .int (iI ((-2))), .int (iI (0)), .int (iI (0)), .int (iI (0)), .int (iI (t6)), .int (iI (t7)), .int (iI (t8)), .int (iI (t9))]))) : CT Γ k_VS_startLife0 y_VS_startLife [.ref (b), .ref (t)] M (n) (fun v M' n' => n = n' ∧ (∀ q, q ≠ b + 17 → q ≠ b + 18 → q ≠ b + 19 → q ≠ t → M' q = M q) ∧ ∃ (zs6x0 : Int) (fs6x1 : Nat → Int32), v = none ∧ 0 ≤ zs6x0 ∧ zs6x0 ≤ 40 ∧ M' (b + 17) = some (.inr (2, [.ref (b + 18), .int (iI (zs6x0))])) ∧ M' (b + 18) = some (.inl (Γ.2.2.1 0, 300, .inl (fs6x1))) ∧ M' (b + 19) = some (.inr (2, [.ref (b + 20), .int (iI (0))])) ∧ M' (t) = some (.inr (5, [.ref (t + 1), .ref (t + 3), .ref (t + 7), .int (iI (ph)), .int (iI ((-2))), .int (iI ((-2))), .int (iI (0)), .int (iI (0)), .int (iI (0)), .int (iI (0)), .int (iI ((max (0) ((-1))))), .int (iI (tm)), .int (iI (t9))]))) := by
  refine CT.of (by decide) rfl rfl 2 rfl (Nat.le_of_ble_eq_true rfl) rfl ?_
  refine g_aload_n d_VS_startLife_0 rfl ?_
  refine g_ldcS (text := "expires") (lit := 9) (by decide) d_VS_startLife_1 ?_
  refine g_callV1 (ν := k_VS_numberOf0) ⟨w_617, w_30, w_620, by decide, by decide, by decide +kernel⟩ w_619 w_14 (c_VS_numberOf0 Γ (b) (b + 5) (b + 11) (fp) (tm) (9) (z) (f) (w) (b + 20) (by first | omega | decide | (have h9 := lenLit_le 9; omega)) (by first | omega | decide | (have h9 := lenLit_le 9; omega)) p0 p2 p3 p4 p1) d_VS_startLife_3 p0 rfl rfl ⟨⟨by decide, by decide⟩, ⟨by decide, by decide⟩⟩ (Nat.le_of_ble_eq_true rfl) (fun v1 M1 n1 hQ1 hn1 hd1 => ?_)
  obtain ⟨rfl, hf1, zs1x0, fs1x1, rfl, hb1_zs1x0_0, hb1_zs1x0_1, hw1_0, hw1_1, hw1_2⟩ := hQ1
  refine g_istore_n d_VS_startLife_6 (by decide) rfl ?_
  refine g_aload_n d_VS_startLife_7 rfl ?_
  refine g_ldcS (text := "date") (lit := 10) (by decide) d_VS_startLife_8 ?_
  refine g_callV1 (ν := k_VS_numberOf0) ⟨w_617, w_30, w_620, by decide, by decide, by decide +kernel⟩ w_619 w_14 (c_VS_numberOf0 Γ (b) (b + 5) (b + 11) (fp) (tm) (10) (zs1x0) (fs1x1) (0) (b + 20) (by first | omega | decide | (have h9 := lenLit_le 10; omega)) (by first | omega | decide | (have h9 := lenLit_le 10; omega)) ((hf1 (b) (by omega) (by omega) (by omega)).trans p0) hw1_0 hw1_1 hw1_2 ((hf1 ((b + 11)) (by omega) (by omega) (by omega)).trans p1)) d_VS_startLife_10 ((hf1 (b) (by omega) (by omega) (by omega)).trans p0) rfl rfl ⟨⟨by decide, by decide⟩, ⟨by decide, by decide⟩⟩ (Nat.le_of_ble_eq_true rfl) (fun v2 M2 n2 hQ2 hn2 hd2 => ?_)
  obtain ⟨rfl, hf2, zs2x0, fs2x1, rfl, hb2_zs2x0_0, hb2_zs2x0_1, hw2_0, hw2_1, hw2_2⟩ := hQ2
  refine g_istore_n d_VS_startLife_13 (by decide) rfl ?_
  refine g_aload_n d_VS_startLife_14 rfl ?_
  refine g_get fa_VS_245 d_VS_startLife_15 ((hf2 (t) (by omega) (by omega) (by omega)).trans ((hf1 (t) (by omega) (by omega) (by omega)).trans p6)) rfl ?_
  refine g_if_lt (tgt := 32) d_VS_startLife_18 (by decide) (fun _ => ?_) (fun h3 => False.elim (by omega))
  refine g_aload_n d_VS_startLife_32 rfl ?_
  refine g_get fa_VS_248 d_VS_startLife_33 ((hf2 (t) (by omega) (by omega) (by omega)).trans ((hf1 (t) (by omega) (by omega) (by omega)).trans p6)) rfl ?_
  refine g_if_lt (tgt := 50) d_VS_startLife_36 (by decide) (fun _ => ?_) (fun h4 => False.elim (by omega))
  refine g_iload_n d_VS_startLife_50 rfl ?_
  refine g_iconst d_VS_startLife_51 ?_
  refine g_icmp_eq (tgt := 74) d_VS_startLife_52 (by decide) (fun _ => ?_) (fun h5 => False.elim (by omega))
  refine g_aload_n d_VS_startLife_74 rfl ?_
  refine g_iconst d_VS_startLife_75 ?_
  refine g_put fa_VS_178 d_VS_startLife_76 ((hf2 (t) (by omega) (by omega) (by omega)).trans ((hf1 (t) (by omega) (by omega) (by omega)).trans p6)) (Nat.le_of_ble_eq_true rfl) rfl rfl rfl ?_
  refine g_aload_n d_VS_startLife_79 rfl ?_
  refine g_iconst d_VS_startLife_80 ?_
  refine g_aload_n d_VS_startLife_81 rfl ?_
  refine g_ldcSW (text := "age") (lit := 11) (by decide) d_VS_startLife_82 ?_
  refine g_callV1 (ν := k_VS_numberOf0) ⟨w_617, w_30, w_620, by decide, by decide, by decide +kernel⟩ w_619 w_14 (c_VS_numberOf0 Γ (b) (b + 5) (b + 11) (fp) (tm) (11) (zs2x0) (fs2x1) (0) (b + 20) (by first | omega | decide | (have h9 := lenLit_le 11; omega)) (by first | omega | decide | (have h9 := lenLit_le 11; omega)) ((hu_ne (by omega)).trans ((hf2 (b) (by omega) (by omega) (by omega)).trans ((hf1 (b) (by omega) (by omega) (by omega)).trans p0))) ((hu_ne (by omega)).trans hw2_0) ((hu_ne (by omega)).trans hw2_1) ((hu_ne (by omega)).trans hw2_2) ((hu_ne (by omega)).trans ((hf2 ((b + 11)) (by omega) (by omega) (by omega)).trans ((hf1 ((b + 11)) (by omega) (by omega) (by omega)).trans p1)))) d_VS_startLife_85 ((hu_ne (by omega)).trans ((hf2 (b) (by omega) (by omega) (by omega)).trans ((hf1 (b) (by omega) (by omega) (by omega)).trans p0))) rfl rfl ⟨⟨by decide, by decide⟩, ⟨by decide, by decide⟩⟩ (Nat.le_of_ble_eq_true rfl) (fun v6 M6 n6 hQ6 hn6 hd6 => ?_)
  obtain ⟨rfl, hf6, zs6x0, fs6x1, rfl, hb6_zs6x0_0, hb6_zs6x0_1, hw6_0, hw6_1, hw6_2⟩ := hQ6
  refine g_max d_VS_startLife_88 w_623 w_263 w_38 w_264 (by decide) (Nat.le_of_ble_eq_true rfl) (by decide) (by decide) (by omega) (by omega) (by omega) (by omega) ?_
  refine g_put fa_VS_258 d_VS_startLife_91 ((hf6 (t) (by omega) (by omega) (by omega)).trans (hu_same _ _ _)) (Nat.le_of_ble_eq_true rfl) rfl rfl rfl ?_
  refine g_aload_n d_VS_startLife_94 rfl ?_
  refine g_aload_n d_VS_startLife_95 rfl ?_
  refine g_get fa_VS_37 d_VS_startLife_96 ((hu_ne (by omega)).trans ((hf6 (b) (by omega) (by omega) (by omega)).trans ((hu_ne (by omega)).trans ((hf2 (b) (by omega) (by omega) (by omega)).trans ((hf1 (b) (by omega) (by omega) (by omega)).trans p0))))) rfl ?_
  refine g_put fa_VS_260 d_VS_startLife_99 (hu_same _ _ _) (Nat.le_of_ble_eq_true rfl) rfl rfl rfl ?_
  refine g_vret d_VS_startLife_102 rfl ?_ (by decide) (by decide)
  exact ⟨rfl, fun q e0 e1 e2 e3 => ((hu_ne (by omega)).trans ((hu_ne (by omega)).trans ((hf6 q (by omega) (by omega) (by omega)).trans ((hu_ne (by omega)).trans ((hf2 q (by omega) (by omega) (by omega)).trans ((hf1 q (by omega) (by omega) (by omega)).trans rfl)))))), zs6x0, fs6x1, rfl, hb6_zs6x0_0, hb6_zs6x0_1, ((hu_ne (by omega)).trans ((hu_ne (by omega)).trans hw6_0)), ((hu_ne (by omega)).trans ((hu_ne (by omega)).trans hw6_1)), ((hu_ne (by omega)).trans ((hu_ne (by omega)).trans hw6_2)), (hu_same _ _ _)⟩
def k_VS_mayBeKept0 : MS := ("VaryStore", b_VS_mayBeKept, 2, (some .boolean), "mayBeKept", { frames := 7, cells := 0, slots := 0, locals := 153 }, [])
set_option maxRecDepth 100000 in
set_option maxHeartbeats 4000000 in
theorem c_VS_mayBeKept0 (Γ : GE) (b : Nat) (fp : Int) (tm : Int) (t : Nat) (ph : Int) (t7 : Int) (t8 : Int) (t9 : Int) (z : Int) (w : Int) (cc : Int) (zz : Int) (f : Nat → Int32) (fv : Nat → Int32) (y : Nat) (e : Nat) (x : Nat) (x2 : Nat) (x3 : Nat) {M : HM} {n : Nat} (ht : b + 33 ≤ t) (p0 : M (b) = some (.inr (0, [.ref (b + 1), .ref (b + 3), .ref (b + 5), .ref (b + 11), .int (iI (fp)), .int (iI (tm)), .ref (b + 17), .ref (b + 19), .ref (b + 21), .ref (b + 25), .ref (b + 29)]))) (p1 : M (b + 5) = some (.inr (4, [.ref (b + 6), .ref (b + 8), .ref (b + 9), .ref (b + 10), .int (iI (0))]))) (p2 : M (b + 17) = some (.inr (2, [.ref (b + 18), .int (iI (z))]))) (p3 : M (b + 17 + 1) = some (.inl (Γ.2.2.1 0, 300, .inl (f)))) (p4 : M (b + 19) = some (.inr (2, [.ref (b + 20), .int (iI (w))]))) (p5 : M (b + 19 + 1) = some (.inl (Γ.2.2.1 0, 300, .inl (fv)))) (p6 : M (b + 21) = some (.inr (1, [.ref (b + 22), .ref (e), .int (iI (cc))]))) (p7 : M (b + 22) = some (.inr (2, [.ref (y), .int (iI (zz))]))) (p8 : M (t) = some (.inr (5, [.ref (t + 1), .ref (t + 3), .ref (t + 7), .int (iI (ph)), .int (iI ((-2))), .int (iI ((-2))), .int (iI (0)), .int (iI (0)), .int (iI (0)), .int (iI (0)), .int (iI (t7)), .int (iI (t8)), .int (iI (t9))]))) (p9 : M (t + 1) = some (.inr (2, [.ref (x), .int (iI (0))]))) (p10 : M (t + 3) = some (.inr (1, [.ref (x2), .ref (x3), .int (iI (0))]))) : CT Γ k_VS_mayBeKept0 y_VS_mayBeKept [.ref (b), .ref (t)] M (n) (fun v M' n' => n = n' ∧ (∀ q, q ≠ b + 17 → q ≠ b + 18 → q ≠ b + 19 → q ≠ b + 22 → q ≠ b + 21 → M' q = M q) ∧ ∃ (zs4x0 : Int) (fs4x1 : Nat → Int32), v = some (.int (iI (0))) ∧ 0 ≤ zs4x0 ∧ zs4x0 ≤ 40 ∧ M' (b + 17) = some (.inr (2, [.ref (b + 18), .int (iI (zs4x0))])) ∧ M' (b + 18) = some (.inl (Γ.2.2.1 0, 300, .inl (fs4x1))) ∧ M' (b + 19) = some (.inr (2, [.ref (b + 20), .int (iI (0))])) ∧ M' (b + 22) = some (.inr (2, [.ref (y), .int (iI (0))])) ∧ M' (b + 21) = some (.inr (1, [.ref (b + 22), .ref (e), .int (iI (0))]))) := by
  refine CT.of (by decide) rfl rfl 0 rfl (Nat.le_of_ble_eq_true rfl) rfl ?_
  refine g_aload_n d_VS_mayBeKept_0 rfl ?_
  refine g_get fa_VS_263 d_VS_mayBeKept_1 p8 rfl ?_
  refine g_if_ne (tgt := 20) d_VS_mayBeKept_4 (by decide) (fun h1 => False.elim (by omega)) (fun _ => ?_)
  refine g_aload_n d_VS_mayBeKept_7 rfl ?_
  refine g_get fa_VS_184 d_VS_mayBeKept_8 p8 rfl ?_
  refine g_ldcSW (text := "*") (lit := 12) (by decide) d_VS_mayBeKept_11 ?_
  refine g_callV1 (ν := k_It_holds0) ⟨w_634, w_34, w_637, by decide, by decide, by decide +kernel⟩ w_635 w_636 (c_It_holds0 Γ (t + 3) (12) (x2) (x3)  p10) d_VS_mayBeKept_14 p10 rfl rfl ⟨⟨by decide, by decide⟩, ⟨by decide, by decide⟩⟩ (Nat.le_of_ble_eq_true rfl) (fun v2 M2 n2 hQ2 hn2 hd2 => ?_)
  obtain ⟨rfl, hf2, rfl⟩ := hQ2
  refine g_if_eq (tgt := 22) d_VS_mayBeKept_17 (by decide) (fun _ => ?_) (fun h3 => False.elim (by omega))
  refine g_aload_n d_VS_mayBeKept_22 rfl ?_
  refine g_aload_n d_VS_mayBeKept_23 rfl ?_
  refine g_get fa_VS_26 d_VS_mayBeKept_24 ((hf2 (b) ).trans p0) rfl ?_
  refine g_ldcS (text := "cache-control") (lit := 0) (by decide) d_VS_mayBeKept_27 ?_
  refine g_aload_n d_VS_mayBeKept_29 rfl ?_
  refine g_get fa_VS_49 d_VS_mayBeKept_30 ((hf2 (b) ).trans p0) rfl ?_
  refine g_callV3 (ν := k_VS_cutList0) ⟨w_335, w_30, w_338, by decide, by decide, by decide +kernel⟩ w_337 w_4 (c_VS_cutList0 Γ (b) (b + 5) (b + 11) (fp) (tm) (b + 5) (0) (b + 21) (z) (f) (w) (b + 20) (cc) (zz) (y) (e) (by first | omega | decide | (have h9 := lenLit_le 0; omega)) (by first | omega | decide | (have h9 := lenLit_le 0; omega)) (by first | omega | decide | (have h9 := lenLit_le 0; omega)) ((hf2 (b) ).trans p0) ((hf2 (b + 17) ).trans p2) ((hf2 (b + 17 + 1) ).trans p3) ((hf2 (b + 19) ).trans p4) ((hf2 ((b + 5)) ).trans p1) ((hf2 ((b + 21)) ).trans p6) ((hf2 ((b + 21) + 1) ).trans p7)) d_VS_mayBeKept_33 ((hf2 (b) ).trans p0) rfl rfl ⟨⟨by decide, by decide⟩, ⟨by decide, by decide⟩⟩ (Nat.le_of_ble_eq_true rfl) (fun v4 M4 n4 hQ4 hn4 hd4 => ?_)
  obtain ⟨rfl, hf4, zs4x0, fs4x1, rfl, hb4_zs4x0_0, hb4_zs4x0_1, hw4_0, hw4_1, hw4_2, hw4_3, hw4_4⟩ := hQ4
  refine g_pop d_VS_mayBeKept_36 rfl ?_
  refine g_aload_n d_VS_mayBeKept_37 rfl ?_
  refine g_get fa_VS_49 d_VS_mayBeKept_38 ((hf4 (b) (by omega) (by omega) (by omega) (by omega) (by omega)).trans ((hf2 (b) ).trans p0)) rfl ?_
  refine g_ldcSW (text := "no-store") (lit := 13) (by decide) d_VS_mayBeKept_41 ?_
  refine g_callV1 (ν := k_It_has0) ⟨w_488, w_34, w_491, by decide, by decide, by decide +kernel⟩ w_489 w_490 (c_It_has0 Γ (b + 21) (13) (b + 22) (e)  hw4_4) d_VS_mayBeKept_44 hw4_4 rfl rfl ⟨⟨by decide, by decide⟩, ⟨by decide, by decide⟩⟩ (Nat.le_of_ble_eq_true rfl) (fun v5 M5 n5 hQ5 hn5 hd5 => ?_)
  obtain ⟨rfl, hf5, rfl⟩ := hQ5
  refine g_if_eq (tgt := 52) d_VS_mayBeKept_47 (by decide) (fun _ => ?_) (fun h6 => False.elim (by omega))
  refine g_aload_n d_VS_mayBeKept_52 rfl ?_
  refine g_get fa_VS_178 d_VS_mayBeKept_53 ((hf5 (t) ).trans ((hf4 (t) (by omega) (by omega) (by omega) (by omega) (by omega)).trans ((hf2 (t) ).trans p8))) rfl ?_
  refine g_if_gt (tgt := 69) d_VS_mayBeKept_56 (by decide) (fun h7 => False.elim (by omega)) (fun _ => ?_)
  refine g_aload_n d_VS_mayBeKept_59 rfl ?_
  refine g_get fa_VS_149 d_VS_mayBeKept_60 ((hf5 (t) ).trans ((hf4 (t) (by omega) (by omega) (by omega) (by omega) (by omega)).trans ((hf2 (t) ).trans p8))) rfl ?_
  refine g_get fa_VS_59 d_VS_mayBeKept_63 ((hf5 (t + 1) ).trans ((hf4 (t + 1) (by omega) (by omega) (by omega) (by omega) (by omega)).trans ((hf2 (t + 1) ).trans p9))) rfl ?_
  refine g_if_le (tgt := 73) d_VS_mayBeKept_66 (by decide) (fun _ => ?_) (fun h8 => False.elim (by omega))
  refine g_iconst d_VS_mayBeKept_73 ?_
  refine g_zret (ty := .boolean) (by first | rfl | exact nar_char (by omega)) d_VS_mayBeKept_74 rfl ?_ (by decide) (by decide)
  exact ⟨rfl, fun q e0 e1 e2 e3 e4 => ((hf5 q ).trans ((hf4 q (by omega) (by omega) (by omega) (by omega) (by omega)).trans ((hf2 q ).trans rfl))), zs4x0, fs4x1, rfl, hb4_zs4x0_0, hb4_zs4x0_1, ((hf5 (b + 17) ).trans hw4_0), ((hf5 (b + 18) ).trans hw4_1), ((hf5 (b + 19) ).trans hw4_2), ((hf5 (b + 22) ).trans hw4_3), ((hf5 (b + 21) ).trans hw4_4)⟩
def k_VS_keep : MS := ("VaryStore", b_VS_keep, 3, (some .boolean), "keep", { frames := 8, cells := 14, slots := 1383, locals := 175 }, [])
set_option maxRecDepth 100000 in
set_option maxHeartbeats 4000000 in
theorem c_VS_keep (Γ : GE) (b : Nat) (fp : Int) (tm : Int) (path : Int) (ln : Int) (zd : Int) (z : Int) (w : Int) (cc : Int) (zz : Int) (u : Int) (f1 : Nat → Int32) (f2 : Nat → Int32) (f : Nat → Int32) (fv : Nat → Int32) (fr : Nat → Int32) (fa : Nat → Int32) (fb : Nat → Int32) (fc : Nat → Int32) (y : Nat) (e : Nat) {M : HM} {n : Nat} (pa : -2147483648 ≤ path) (pb : path < 2147483648) (hbn : b + 33 ≤ n) (p0 : M (b) = some (.inr (0, [.ref (b + 1), .ref (b + 3), .ref (b + 5), .ref (b + 11), .int (iI (fp)), .int (iI (tm)), .ref (b + 17), .ref (b + 19), .ref (b + 21), .ref (b + 25), .ref (b + 29)]))) (p1 : M (b + 1) = some (.inr (2, [.ref (b + 2), .int (iI (0))]))) (p2 : M (b + 1 + 1) = some (.inl (Γ.2.2.1 0, 300, .inl (f1)))) (p3 : M (b + 11) = some (.inr (4, [.ref (b + 12), .ref (b + 14), .ref (b + 15), .ref (b + 16), .int (iI (ln))]))) (p4 : M (b + 12) = some (.inr (2, [.ref (b + 13), .int (iI (zd))]))) (p5 : M (b + 12 + 1) = some (.inl (Γ.2.2.1 0, 300, .inl (f2)))) (p6 : M (b + 5) = some (.inr (4, [.ref (b + 6), .ref (b + 8), .ref (b + 9), .ref (b + 10), .int (iI (0))]))) (p7 : M (b + 6) = some (.inr (2, [.ref (b + 7), .int (iI (0))]))) (p8 : M (b + 6 + 1) = some (.inl (Γ.2.2.1 0, 300, .inl (fr)))) (p9 : M (b + 5 + 3) = some (.inl (Γ.2.2.1 1, 100, .inl (fa)))) (p10 : M (b + 5 + 4) = some (.inl (Γ.2.2.1 1, 100, .inl (fb)))) (p11 : M (b + 5 + 5) = some (.inl (Γ.2.2.1 1, 100, .inl (fc)))) (p12 : M (b + 17) = some (.inr (2, [.ref (b + 18), .int (iI (z))]))) (p13 : M (b + 17 + 1) = some (.inl (Γ.2.2.1 0, 300, .inl (f)))) (p14 : M (b + 19) = some (.inr (2, [.ref (b + 20), .int (iI (w))]))) (p15 : M (b + 19 + 1) = some (.inl (Γ.2.2.1 0, 300, .inl (fv)))) (p16 : M (b + 21) = some (.inr (1, [.ref (b + 22), .ref (e), .int (iI (cc))]))) (p17 : M (b + 22) = some (.inr (2, [.ref (y), .int (iI (zz))]))) (p18 : M (b + 3) = some (.inr (3, [.ref (b + 4), .int (iI (0)), .int (iI (u))]))) (p19 : M (b + 4) = some (.inl (Γ.2.2.1 2, 25, .inr (.inr (.inr (.inr (fun _ => none))))))) : CX Γ k_VS_keep y_VS_keep [.ref (b), .int (iI (path))] M (n) (fun v M' n' => n + 13 = n' ∧ (∀ q, q ≠ b + 12 → q ≠ b + 11 → q ≠ b → q ≠ b + 1 → q ≠ n → q ≠ n + 1 → q ≠ n + 2 → q ≠ n + 3 → q ≠ n + 4 → q ≠ n + 5 → q ≠ n + 6 → q ≠ n + 7 → q ≠ n + 8 → q ≠ n + 9 → q ≠ n + 10 → q ≠ n + 11 → q ≠ n + 12 → q ≠ b + 4 → q ≠ b + 17 → q ≠ b + 18 → q ≠ b + 19 → q ≠ b + 22 → q ≠ b + 21 → M' q = M q) ∧ ∃ (zs9x0 : Int) (fs9x1 : Nat → Int32), v = some (.int (iI (0))) ∧ 0 ≤ zs9x0 ∧ zs9x0 ≤ 40 ∧ M' (b + 12) = some (.inr (2, [.ref (b + 13), .int (iI (0))])) ∧ M' (b + 11) = some (.inr (4, [.ref (b + 12), .ref (b + 14), .ref (b + 15), .ref (b + 16), .int (iI (0))])) ∧ M' (b) = some (.inr (0, [.ref (b + 1), .ref (b + 3), .ref (b + 5), .ref (b + 11), .int (iI ((-1))), .int (iI (tm)), .ref (b + 17), .ref (b + 19), .ref (b + 21), .ref (b + 25), .ref (b + 29)])) ∧ M' (b + 1) = some (.inr (2, [.ref (b + 2), .int (iI (0))])) ∧ M' (n) = some (.inr (5, [.ref (n + 1), .ref (n + 3), .ref (n + 7), .int (iI (path)), .int (iI ((-2))), .int (iI ((-2))), .int (iI (0)), .int (iI (0)), .int (iI (0)), .int (iI (0)), .int (iI ((max (0) ((-1))))), .int (iI (tm)), .int (iI (0))])) ∧ M' (n + 1) = some (.inr (2, [.ref (n + 2), .int (iI (0))])) ∧ M' (n + 2) = some (.inl (Γ.2.2.1 0, 300, .inl (fun _ => iI 0))) ∧ M' (n + 3) = some (.inr (1, [.ref (n + 4), .ref (n + 6), .int (iI (0))])) ∧ M' (n + 4) = some (.inr (2, [.ref (n + 5), .int (iI (0))])) ∧ M' (n + 5) = some (.inl (Γ.2.2.1 0, 300, .inl (fun _ => iI 0))) ∧ M' (n + 6) = some (.inl (Γ.2.2.1 1, 150, .inl (fun _ => iI 0))) ∧ M' (n + 7) = some (.inr (4, [.ref (n + 8), .ref (n + 10), .ref (n + 11), .ref (n + 12), .int (iI (0))])) ∧ M' (n + 8) = some (.inr (2, [.ref (n + 9), .int (iI (0))])) ∧ M' (n + 9) = some (.inl (Γ.2.2.1 0, 300, .inl (fun _ => iI 0))) ∧ M' (n + 10) = some (.inl (Γ.2.2.1 1, 100, .inl ((fun _ => iI 0)))) ∧ M' (n + 11) = some (.inl (Γ.2.2.1 1, 100, .inl ((fun _ => iI 0)))) ∧ M' (n + 12) = some (.inl (Γ.2.2.1 1, 100, .inl ((fun _ => iI 0)))) ∧ M' (b + 4) = some (.inl (Γ.2.2.1 2, 25, .inr (.inr (.inr (.inr (va_up (fun _ => none) (24 : Int).toNat (some (n)))))))) ∧ M' (b + 17) = some (.inr (2, [.ref (b + 18), .int (iI (zs9x0))])) ∧ M' (b + 18) = some (.inl (Γ.2.2.1 0, 300, .inl (fs9x1))) ∧ M' (b + 19) = some (.inr (2, [.ref (b + 20), .int (iI (0))])) ∧ M' (b + 22) = some (.inr (2, [.ref (y), .int (iI (0))])) ∧ M' (b + 21) = some (.inr (1, [.ref (b + 22), .ref (e), .int (iI (0))])) ∧ (0 ≤ path ∧ path < 16)) (fun C M' n' => C = "java/lang/IllegalArgumentException" ∧ n ≤ n' ∧ (∀ q, q ≠ (b + 11) + 1 → q ≠ (b + 11) → q ≠ b → q ≠ b + 1 → M' q = M q) ∧ (¬ (0 ≤ path ∧ path < 16))) := by
  refine CX.of (by decide) rfl rfl 1 rfl (Nat.le_of_ble_eq_true rfl) rfl ?_
  refine g_aload_n d_VS_keep_0 rfl ?_
  refine g_iload_n d_VS_keep_1 rfl ?_
  refine g_callVX1 (ν := k_VS_readTape) ⟨w_218, w_30, w_221, by decide, by decide, by decide +kernel⟩ w_220 w_1 (c_VS_readTape Γ (b) (b + 5) (b + 11) (fp) (tm) (path) (f1) (f2) (ln) (zd) (by omega) (by omega) (by omega) (by omega) p0 p1 p2 p3 p4 p5) d_VS_keep_2 p0 rfl rfl ⟨⟨by decide, by decide⟩, ⟨by decide, by decide⟩⟩ (Nat.le_of_ble_eq_true rfl) rfl (fun C9 M9 n9 h9 _ _ => h9) (fun v1 M1 n1 hQ1 hn1 hd1 => ?_)
  obtain ⟨rfl, hf1, rfl, hw1_0, hw1_1, hw1_2, hw1_3, hc1⟩ := hQ1
  refine g_aload_n d_VS_keep_5 rfl ?_
  refine g_get fa_VS_19 d_VS_keep_6 hw1_2 rfl ?_
  refine g_callV0 (ν := k_Sh_spare0) ⟨w_512, w_32, w_515, by decide, by decide, by decide +kernel⟩ w_513 w_514 (c_Sh_spare0 Γ (b + 3) (0) (u) (by omega) ((hf1 ((b + 3)) (by omega) (by omega) (by omega) (by omega)).trans p18) ((hf1 ((b + 3) + 1) (by omega) (by omega) (by omega) (by omega)).trans p19)) d_VS_keep_9 ((hf1 (b + 3) (by omega) (by omega) (by omega) (by omega)).trans p18) rfl rfl ⟨⟨by decide, by decide⟩, ⟨by decide, by decide⟩⟩ (Nat.le_of_ble_eq_true rfl) (fun v2 M2 n2 hQ2 hn2 hd2 => ?_)
  obtain ⟨rfl, hf2, rfl, hw2_0, hw2_1, hw2_2, hw2_3, hw2_4, hw2_5, hw2_6, hw2_7, hw2_8, hw2_9, hw2_10, hw2_11, hw2_12, hw2_13⟩ := hQ2
  refine g_astore_n d_VS_keep_12 (by decide) rfl ?_
  refine g_aload_n d_VS_keep_13 rfl ?_
  refine g_aload_n d_VS_keep_14 rfl ?_
  refine g_iload_n d_VS_keep_15 rfl ?_
  refine g_callV2 (ν := k_VS_describe0) ⟨w_579, w_30, w_582, by decide, by decide, by decide +kernel⟩ w_581 w_12 (c_VS_describe0 Γ (b) ((-1)) (tm) (n) (path) (0) ((-2)) ((-2)) (0) (0) (0) (0) (0) (0) (0) (z) (w) (0) (0) (0) (0) (0) (f) (fv) (fr) (fa) (fb) (fc) (fun _ => iI 0) (fun _ => iI 0) (fun _ => iI 0) (fun _ => iI 0) (fun _ => iI 0) (n + 5) (by omega) ((hf2 (b) (by omega) (by omega) (by omega) (by omega) (by omega) (by omega) (by omega) (by omega) (by omega) (by omega) (by omega) (by omega) (by omega) (by omega)).trans hw1_2) ((hf2 (b + 5) (by omega) (by omega) (by omega) (by omega) (by omega) (by omega) (by omega) (by omega) (by omega) (by omega) (by omega) (by omega) (by omega) (by omega)).trans ((hf1 (b + 5) (by omega) (by omega) (by omega) (by omega)).trans p6)) ((hf2 (b + 6) (by omega) (by omega) (by omega) (by omega) (by omega) (by omega) (by omega) (by omega) (by omega) (by omega) (by omega) (by omega) (by omega) (by omega)).trans ((hf1 (b + 6) (by omega) (by omega) (by omega) (by omega)).trans p7)) ((hf2 (b + 6 + 1) (by omega) (by omega) (by omega) (by omega) (by omega) (by omega) (by omega) (by omega) (by omega) (by omega) (by omega) (by omega) (by omega) (by omega)).trans ((hf1 (b + 6 + 1) (by omega) (by omega) (by omega) (by omega)).trans p8)) ((hf2 (b + 5 + 3) (by omega) (by omega) (by omega) (by omega) (by omega) (by omega) (by omega) (by omega) (by omega) (by omega) (by omega) (by omega) (by omega) (by omega)).trans ((hf1 (b + 5 + 3) (by omega) (by omega) (by omega) (by omega)).trans p9)) ((hf2 (b + 5 + 4) (by omega) (by omega) (by omega) (by omega) (by omega) (by omega) (by omega) (by omega) (by omega) (by omega) (by omega) (by omega) (by omega) (by omega)).trans ((hf1 (b + 5 + 4) (by omega) (by omega) (by omega) (by omega)).trans p10)) ((hf2 (b + 5 + 5) (by omega) (by omega) (by omega) (by omega) (by omega) (by omega) (by omega) (by omega) (by omega) (by omega) (by omega) (by omega) (by omega) (by omega)).trans ((hf1 (b + 5 + 5) (by omega) (by omega) (by omega) (by omega)).trans p11)) ((hf2 (b + 11) (by omega) (by omega) (by omega) (by omega) (by omega) (by omega) (by omega) (by omega) (by omega) (by omega) (by omega) (by omega) (by omega) (by omega)).trans hw1_1) ((hf2 (b + 17) (by omega) (by omega) (by omega) (by omega) (by omega) (by omega) (by omega) (by omega) (by omega) (by omega) (by omega) (by omega) (by omega) (by omega)).trans ((hf1 (b + 17) (by omega) (by omega) (by omega) (by omega)).trans p12)) ((hf2 (b + 17 + 1) (by omega) (by omega) (by omega) (by omega) (by omega) (by omega) (by omega) (by omega) (by omega) (by omega) (by omega) (by omega) (by omega) (by omega)).trans ((hf1 (b + 17 + 1) (by omega) (by omega) (by omega) (by omega)).trans p13)) ((hf2 (b + 19) (by omega) (by omega) (by omega) (by omega) (by omega) (by omega) (by omega) (by omega) (by omega) (by omega) (by omega) (by omega) (by omega) (by omega)).trans ((hf1 (b + 19) (by omega) (by omega) (by omega) (by omega)).trans p14)) ((hf2 (b + 19 + 1) (by omega) (by omega) (by omega) (by omega) (by omega) (by omega) (by omega) (by omega) (by omega) (by omega) (by omega) (by omega) (by omega) (by omega)).trans ((hf1 (b + 19 + 1) (by omega) (by omega) (by omega) (by omega)).trans p15)) hw2_0 hw2_1 hw2_2 hw2_3 hw2_4 hw2_7 hw2_8 hw2_9 hw2_10 hw2_11 hw2_12) d_VS_keep_16 ((hf2 (b) (by omega) (by omega) (by omega) (by omega) (by omega) (by omega) (by omega) (by omega) (by omega) (by omega) (by omega) (by omega) (by omega) (by omega)).trans hw1_2) rfl rfl ⟨⟨by decide, by decide⟩, ⟨by decide, by decide⟩⟩ (Nat.le_of_ble_eq_true rfl) (fun v3 M3 n3 hQ3 hn3 hd3 => ?_)
  obtain ⟨rfl, hf3, zs3x0, fs3x1, rfl, hb3_zs3x0_0, hb3_zs3x0_1, hw3_0, hw3_1, hw3_2, hw3_3, hw3_4, hw3_5, hw3_6, hw3_7, hw3_8, hw3_9, hw3_10, hw3_11⟩ := hQ3
  refine g_aload_n d_VS_keep_19 rfl ?_
  refine g_aload_n d_VS_keep_20 rfl ?_
  refine g_get fa_VS_30 d_VS_keep_21 ((hf3 (b) (by omega) (by omega) (by omega) (by omega) (by omega) (by omega) (by omega) (by omega) (by omega) (by omega) (by omega) (by omega)).trans ((hf2 (b) (by omega) (by omega) (by omega) (by omega) (by omega) (by omega) (by omega) (by omega) (by omega) (by omega) (by omega) (by omega) (by omega) (by omega)).trans hw1_2)) rfl ?_
  refine g_ldcS (text := "cache-control") (lit := 0) (by decide) d_VS_keep_24 ?_
  refine g_aload_n d_VS_keep_26 rfl ?_
  refine g_get fa_VS_49 d_VS_keep_27 ((hf3 (b) (by omega) (by omega) (by omega) (by omega) (by omega) (by omega) (by omega) (by omega) (by omega) (by omega) (by omega) (by omega)).trans ((hf2 (b) (by omega) (by omega) (by omega) (by omega) (by omega) (by omega) (by omega) (by omega) (by omega) (by omega) (by omega) (by omega) (by omega) (by omega)).trans hw1_2)) rfl ?_
  refine g_callV3 (ν := k_VS_cutList0) ⟨w_335, w_30, w_338, by decide, by decide, by decide +kernel⟩ w_337 w_4 (c_VS_cutList0 Γ (b) (b + 5) (b + 11) ((-1)) (tm) (b + 11) (0) (b + 21) (zs3x0) (fs3x1) (0) (b + 20) (cc) (zz) (y) (e) (by first | omega | decide | (have h9 := lenLit_le 0; omega)) (by first | omega | decide | (have h9 := lenLit_le 0; omega)) (by first | omega | decide | (have h9 := lenLit_le 0; omega)) ((hf3 (b) (by omega) (by omega) (by omega) (by omega) (by omega) (by omega) (by omega) (by omega) (by omega) (by omega) (by omega) (by omega)).trans ((hf2 (b) (by omega) (by omega) (by omega) (by omega) (by omega) (by omega) (by omega) (by omega) (by omega) (by omega) (by omega) (by omega) (by omega) (by omega)).trans hw1_2)) hw3_6 hw3_7 hw3_8 ((hf3 ((b + 11)) (by omega) (by omega) (by omega) (by omega) (by omega) (by omega) (by omega) (by omega) (by omega) (by omega) (by omega) (by omega)).trans ((hf2 ((b + 11)) (by omega) (by omega) (by omega) (by omega) (by omega) (by omega) (by omega) (by omega) (by omega) (by omega) (by omega) (by omega) (by omega) (by omega)).trans hw1_1)) ((hf3 ((b + 21)) (by omega) (by omega) (by omega) (by omega) (by omega) (by omega) (by omega) (by omega) (by omega) (by omega) (by omega) (by omega)).trans ((hf2 ((b + 21)) (by omega) (by omega) (by omega) (by omega) (by omega) (by omega) (by omega) (by omega) (by omega) (by omega) (by omega) (by omega) (by omega) (by omega)).trans ((hf1 ((b + 21)) (by omega) (by omega) (by omega) (by omega)).trans p16))) ((hf3 ((b + 21) + 1) (by omega) (by omega) (by omega) (by omega) (by omega) (by omega) (by omega) (by omega) (by omega) (by omega) (by omega) (by omega)).trans ((hf2 ((b + 21) + 1) (by omega) (by omega) (by omega) (by omega) (by omega) (by omega) (by omega) (by omega) (by omega) (by omega) (by omega) (by omega) (by omega) (by omega)).trans ((hf1 ((b + 21) + 1) (by omega) (by omega) (by omega) (by omega)).trans p17)))) d_VS_keep_30 ((hf3 (b) (by omega) (by omega) (by omega) (by omega) (by omega) (by omega) (by omega) (by omega) (by omega) (by omega) (by omega) (by omega)).trans ((hf2 (b) (by omega) (by omega) (by omega) (by omega) (by omega) (by omega) (by omega) (by omega) (by omega) (by omega) (by omega) (by omega) (by omega) (by omega)).trans hw1_2)) rfl rfl ⟨⟨by decide, by decide⟩, ⟨by decide, by decide⟩⟩ (Nat.le_of_ble_eq_true rfl) (fun v4 M4 n4 hQ4 hn4 hd4 => ?_)
  obtain ⟨rfl, hf4, zs4x0, fs4x1, rfl, hb4_zs4x0_0, hb4_zs4x0_1, hw4_0, hw4_1, hw4_2, hw4_3, hw4_4⟩ := hQ4
  refine g_pop d_VS_keep_33 rfl ?_
  refine g_aload_n d_VS_keep_34 rfl ?_
  refine g_aload_n d_VS_keep_35 rfl ?_
  refine g_get fa_VS_49 d_VS_keep_36 ((hf4 (b) (by omega) (by omega) (by omega) (by omega) (by omega)).trans ((hf3 (b) (by omega) (by omega) (by omega) (by omega) (by omega) (by omega) (by omega) (by omega) (by omega) (by omega) (by omega) (by omega)).trans ((hf2 (b) (by omega) (by omega) (by omega) (by omega) (by omega) (by omega) (by omega) (by omega) (by omega) (by omega) (by omega) (by omega) (by omega) (by omega)).trans hw1_2))) rfl ?_
  refine g_callV1 (ν := k_Th_obey0) ⟨w_599, w_47, w_602, by decide, by decide, by decide +kernel⟩ w_600 w_601 (c_Th_obey0 Γ (n) (b + 21) (path) (((-2))) (((-2))) (0) (0) (0) (0) (0) (0) (0) (b + 22) (e) (by omega) ((hf4 (n) (by omega) (by omega) (by omega) (by omega) (by omega)).trans hw3_0) hw4_4) d_VS_keep_39 ((hf4 (n) (by omega) (by omega) (by omega) (by omega) (by omega)).trans hw3_0) rfl rfl ⟨⟨by decide, by decide⟩, ⟨by decide, by decide⟩⟩ (Nat.le_of_ble_eq_true rfl) (fun v5 M5 n5 hQ5 hn5 hd5 => ?_)
  obtain ⟨rfl, hf5, rfl, hw5_0⟩ := hQ5
  refine g_aload_n d_VS_keep_42 rfl ?_
  refine g_aload_n d_VS_keep_43 rfl ?_
  refine g_callV1 (ν := k_VS_startLife0) ⟨w_612, w_30, w_615, by decide, by decide, by decide +kernel⟩ w_614 w_13 (c_VS_startLife0 Γ (b) ((-1)) (tm) (n) (path) (0) (0) (0) (0) (zs4x0) (0) (fs4x1) (fv) (by omega) ((hf5 (b) (by omega)).trans ((hf4 (b) (by omega) (by omega) (by omega) (by omega) (by omega)).trans ((hf3 (b) (by omega) (by omega) (by omega) (by omega) (by omega) (by omega) (by omega) (by omega) (by omega) (by omega) (by omega) (by omega)).trans ((hf2 (b) (by omega) (by omega) (by omega) (by omega) (by omega) (by omega) (by omega) (by omega) (by omega) (by omega) (by omega) (by omega) (by omega) (by omega)).trans hw1_2)))) ((hf5 (b + 11) (by omega)).trans ((hf4 (b + 11) (by omega) (by omega) (by omega) (by omega) (by omega)).trans ((hf3 (b + 11) (by omega) (by omega) (by omega) (by omega) (by omega) (by omega) (by omega) (by omega) (by omega) (by omega) (by omega) (by omega)).trans ((hf2 (b + 11) (by omega) (by omega) (by omega) (by omega) (by omega) (by omega) (by omega) (by omega) (by omega) (by omega) (by omega) (by omega) (by omega) (by omega)).trans hw1_1)))) ((hf5 (b + 17) (by omega)).trans hw4_0) ((hf5 (b + 17 + 1) (by omega)).trans hw4_1) ((hf5 (b + 19) (by omega)).trans hw4_2) ((hf5 (b + 19 + 1) (by omega)).trans ((hf4 (b + 19 + 1) (by omega) (by omega) (by omega) (by omega) (by omega)).trans ((hf3 (b + 19 + 1) (by omega) (by omega) (by omega) (by omega) (by omega) (by omega) (by omega) (by omega) (by omega) (by omega) (by omega) (by omega)).trans ((hf2 (b + 19 + 1) (by omega) (by omega) (by omega) (by omega) (by omega) (by omega) (by omega) (by omega) (by omega) (by omega) (by omega) (by omega) (by omega) (by omega)).trans ((hf1 (b + 19 + 1) (by omega) (by omega) (by omega) (by omega)).trans p15))))) hw5_0) d_VS_keep_44 ((hf5 (b) (by omega)).trans ((hf4 (b) (by omega) (by omega) (by omega) (by omega) (by omega)).trans ((hf3 (b) (by omega) (by omega) (by omega) (by omega) (by omega) (by omega) (by omega) (by omega) (by omega) (by omega) (by omega) (by omega)).trans ((hf2 (b) (by omega) (by omega) (by omega) (by omega) (by omega) (by omega) (by omega) (by omega) (by omega) (by omega) (by omega) (by omega) (by omega) (by omega)).trans hw1_2)))) rfl rfl ⟨⟨by decide, by decide⟩, ⟨by decide, by decide⟩⟩ (Nat.le_of_ble_eq_true rfl) (fun v6 M6 n6 hQ6 hn6 hd6 => ?_)
  obtain ⟨rfl, hf6, zs6x0, fs6x1, rfl, hb6_zs6x0_0, hb6_zs6x0_1, hw6_0, hw6_1, hw6_2, hw6_3⟩ := hQ6
  refine g_aload_n d_VS_keep_47 rfl ?_
  refine g_get fa_VS_19 d_VS_keep_48 ((hf6 (b) (by omega) (by omega) (by omega) (by omega)).trans ((hf5 (b) (by omega)).trans ((hf4 (b) (by omega) (by omega) (by omega) (by omega) (by omega)).trans ((hf3 (b) (by omega) (by omega) (by omega) (by omega) (by omega) (by omega) (by omega) (by omega) (by omega) (by omega) (by omega) (by omega)).trans ((hf2 (b) (by omega) (by omega) (by omega) (by omega) (by omega) (by omega) (by omega) (by omega) (by omega) (by omega) (by omega) (by omega) (by omega) (by omega)).trans hw1_2))))) rfl ?_
  refine g_aload_n d_VS_keep_51 rfl ?_
  refine g_aload_n d_VS_keep_52 rfl ?_
  refine g_callV1 (ν := k_VS_same0) ⟨w_625, w_30, w_628, by decide, by decide, by decide +kernel⟩ w_627 w_15 (c_VS_same0 Γ (b) (b + 5) (b + 11) ((-1)) (tm) (n) (u)  ((hf6 (b) (by omega) (by omega) (by omega) (by omega)).trans ((hf5 (b) (by omega)).trans ((hf4 (b) (by omega) (by omega) (by omega) (by omega) (by omega)).trans ((hf3 (b) (by omega) (by omega) (by omega) (by omega) (by omega) (by omega) (by omega) (by omega) (by omega) (by omega) (by omega) (by omega)).trans ((hf2 (b) (by omega) (by omega) (by omega) (by omega) (by omega) (by omega) (by omega) (by omega) (by omega) (by omega) (by omega) (by omega) (by omega) (by omega)).trans hw1_2))))) ((hf6 (b + 3) (by omega) (by omega) (by omega) (by omega)).trans ((hf5 (b + 3) (by omega)).trans ((hf4 (b + 3) (by omega) (by omega) (by omega) (by omega) (by omega)).trans ((hf3 (b + 3) (by omega) (by omega) (by omega) (by omega) (by omega) (by omega) (by omega) (by omega) (by omega) (by omega) (by omega) (by omega)).trans ((hf2 (b + 3) (by omega) (by omega) (by omega) (by omega) (by omega) (by omega) (by omega) (by omega) (by omega) (by omega) (by omega) (by omega) (by omega) (by omega)).trans ((hf1 (b + 3) (by omega) (by omega) (by omega) (by omega)).trans p18))))))) d_VS_keep_53 ((hf6 (b) (by omega) (by omega) (by omega) (by omega)).trans ((hf5 (b) (by omega)).trans ((hf4 (b) (by omega) (by omega) (by omega) (by omega) (by omega)).trans ((hf3 (b) (by omega) (by omega) (by omega) (by omega) (by omega) (by omega) (by omega) (by omega) (by omega) (by omega) (by omega) (by omega)).trans ((hf2 (b) (by omega) (by omega) (by omega) (by omega) (by omega) (by omega) (by omega) (by omega) (by omega) (by omega) (by omega) (by omega) (by omega) (by omega)).trans hw1_2))))) rfl rfl ⟨⟨by decide, by decide⟩, ⟨by decide, by decide⟩⟩ (Nat.le_of_ble_eq_true rfl) (fun v7 M7 n7 hQ7 hn7 hd7 => ?_)
  obtain ⟨rfl, hf7, rfl⟩ := hQ7
  refine g_callV1 (ν := k_Sh_drop0) ⟨w_198, w_32, w_201, by decide, by decide, by decide +kernel⟩ w_199 w_200 (c_Sh_drop0 Γ (b + 3)  ) d_VS_keep_56 ((hf7 (b + 3) ).trans ((hf6 (b + 3) (by omega) (by omega) (by omega) (by omega)).trans ((hf5 (b + 3) (by omega)).trans ((hf4 (b + 3) (by omega) (by omega) (by omega) (by omega) (by omega)).trans ((hf3 (b + 3) (by omega) (by omega) (by omega) (by omega) (by omega) (by omega) (by omega) (by omega) (by omega) (by omega) (by omega) (by omega)).trans ((hf2 (b + 3) (by omega) (by omega) (by omega) (by omega) (by omega) (by omega) (by omega) (by omega) (by omega) (by omega) (by omega) (by omega) (by omega) (by omega)).trans ((hf1 (b + 3) (by omega) (by omega) (by omega) (by omega)).trans p18))))))) rfl rfl ⟨⟨by decide, by decide⟩, ⟨by decide, by decide⟩⟩ (Nat.le_of_ble_eq_true rfl) (fun v8 M8 n8 hQ8 hn8 hd8 => ?_)
  obtain ⟨rfl, hf8, rfl⟩ := hQ8
  refine g_aload_n d_VS_keep_59 rfl ?_
  refine g_aload_n d_VS_keep_60 rfl ?_
  refine g_callV1 (ν := k_VS_mayBeKept0) ⟨w_629, w_30, w_632, by decide, by decide, by decide +kernel⟩ w_631 w_16 (c_VS_mayBeKept0 Γ (b) ((-1)) (tm) (n) (path) ((max (0) ((-1)))) (tm) (0) (zs6x0) (0) (0) (0) (fs6x1) (fv) (y) (e) (n + 2) (n + 4) (n + 6) (by omega) ((hf8 (b) ).trans ((hf7 (b) ).trans ((hf6 (b) (by omega) (by omega) (by omega) (by omega)).trans ((hf5 (b) (by omega)).trans ((hf4 (b) (by omega) (by omega) (by omega) (by omega) (by omega)).trans ((hf3 (b) (by omega) (by omega) (by omega) (by omega) (by omega) (by omega) (by omega) (by omega) (by omega) (by omega) (by omega) (by omega)).trans ((hf2 (b) (by omega) (by omega) (by omega) (by omega) (by omega) (by omega) (by omega) (by omega) (by omega) (by omega) (by omega) (by omega) (by omega) (by omega)).trans hw1_2))))))) ((hf8 (b + 5) ).trans ((hf7 (b + 5) ).trans ((hf6 (b + 5) (by omega) (by omega) (by omega) (by omega)).trans ((hf5 (b + 5) (by omega)).trans ((hf4 (b + 5) (by omega) (by omega) (by omega) (by omega) (by omega)).trans ((hf3 (b + 5) (by omega) (by omega) (by omega) (by omega) (by omega) (by omega) (by omega) (by omega) (by omega) (by omega) (by omega) (by omega)).trans ((hf2 (b + 5) (by omega) (by omega) (by omega) (by omega) (by omega) (by omega) (by omega) (by omega) (by omega) (by omega) (by omega) (by omega) (by omega) (by omega)).trans ((hf1 (b + 5) (by omega) (by omega) (by omega) (by omega)).trans p6)))))))) ((hf8 (b + 17) ).trans ((hf7 (b + 17) ).trans hw6_0)) ((hf8 (b + 17 + 1) ).trans ((hf7 (b + 17 + 1) ).trans hw6_1)) ((hf8 (b + 19) ).trans ((hf7 (b + 19) ).trans hw6_2)) ((hf8 (b + 19 + 1) ).trans ((hf7 (b + 19 + 1) ).trans ((hf6 (b + 19 + 1) (by omega) (by omega) (by omega) (by omega)).trans ((hf5 (b + 19 + 1) (by omega)).trans ((hf4 (b + 19 + 1) (by omega) (by omega) (by omega) (by omega) (by omega)).trans ((hf3 (b + 19 + 1) (by omega) (by omega) (by omega) (by omega) (by omega) (by omega) (by omega) (by omega) (by omega) (by omega) (by omega) (by omega)).trans ((hf2 (b + 19 + 1) (by omega) (by omega) (by omega) (by omega) (by omega) (by omega) (by omega) (by omega) (by omega) (by omega) (by omega) (by omega) (by omega) (by omega)).trans ((hf1 (b + 19 + 1) (by omega) (by omega) (by omega) (by omega)).trans p15)))))))) ((hf8 (b + 21) ).trans ((hf7 (b + 21) ).trans ((hf6 (b + 21) (by omega) (by omega) (by omega) (by omega)).trans ((hf5 (b + 21) (by omega)).trans hw4_4)))) ((hf8 (b + 22) ).trans ((hf7 (b + 22) ).trans ((hf6 (b + 22) (by omega) (by omega) (by omega) (by omega)).trans ((hf5 (b + 22) (by omega)).trans hw4_3)))) ((hf8 (n) ).trans ((hf7 (n) ).trans hw6_3)) ((hf8 (n + 1) ).trans ((hf7 (n + 1) ).trans ((hf6 (n + 1) (by omega) (by omega) (by omega) (by omega)).trans ((hf5 (n + 1) (by omega)).trans ((hf4 (n + 1) (by omega) (by omega) (by omega) (by omega) (by omega)).trans hw3_9))))) ((hf8 (n + 3) ).trans ((hf7 (n + 3) ).trans ((hf6 (n + 3) (by omega) (by omega) (by omega) (by omega)).trans ((hf5 (n + 3) (by omega)).trans ((hf4 (n + 3) (by omega) (by omega) (by omega) (by omega) (by omega)).trans hw3_11)))))) d_VS_keep_61 ((hf8 (b) ).trans ((hf7 (b) ).trans ((hf6 (b) (by omega) (by omega) (by omega) (by omega)).trans ((hf5 (b) (by omega)).trans ((hf4 (b) (by omega) (by omega) (by omega) (by omega) (by omega)).trans ((hf3 (b) (by omega) (by omega) (by omega) (by omega) (by omega) (by omega) (by omega) (by omega) (by omega) (by omega) (by omega) (by omega)).trans ((hf2 (b) (by omega) (by omega) (by omega) (by omega) (by omega) (by omega) (by omega) (by omega) (by omega) (by omega) (by omega) (by omega) (by omega) (by omega)).trans hw1_2))))))) rfl rfl ⟨⟨by decide, by decide⟩, ⟨by decide, by decide⟩⟩ (Nat.le_of_ble_eq_true rfl) (fun v9 M9 n9 hQ9 hn9 hd9 => ?_)
  obtain ⟨rfl, hf9, zs9x0, fs9x1, rfl, hb9_zs9x0_0, hb9_zs9x0_1, hw9_0, hw9_1, hw9_2, hw9_3, hw9_4⟩ := hQ9
  refine g_if_ne (tgt := 69) d_VS_keep_64 (by decide) (fun h10 => False.elim (by omega)) (fun _ => ?_)
  refine g_iconst d_VS_keep_67 ?_
  refine g_x ?_
  refine g_zret (ty := .boolean) (by first | rfl | decide) d_VS_keep_68 rfl ?_ (by decide) (by decide)
  exact ⟨rfl, fun q e0 e1 e2 e3 e4 e5 e6 e7 e8 e9 e10 e11 e12 e13 e14 e15 e16 e17 e18 e19 e20 e21 e22 => ((hf9 q (by omega) (by omega) (by omega) (by omega) (by omega)).trans ((hf8 q ).trans ((hf7 q ).trans ((hf6 q (by omega) (by omega) (by omega) (by omega)).trans ((hf5 q (by omega)).trans ((hf4 q (by omega) (by omega) (by omega) (by omega) (by omega)).trans ((hf3 q (by omega) (by omega) (by omega) (by omega) (by omega) (by omega) (by omega) (by omega) (by omega) (by omega) (by omega) (by omega)).trans ((hf2 q (by omega) (by omega) (by omega) (by omega) (by omega) (by omega) (by omega) (by omega) (by omega) (by omega) (by omega) (by omega) (by omega) (by omega)).trans ((hf1 q (by omega) (by omega) (by omega) (by omega)).trans rfl))))))))), zs9x0, fs9x1, rfl, hb9_zs9x0_0, hb9_zs9x0_1, ((hf9 (b + 12) (by omega) (by omega) (by omega) (by omega) (by omega)).trans ((hf8 (b + 12) ).trans ((hf7 (b + 12) ).trans ((hf6 (b + 12) (by omega) (by omega) (by omega) (by omega)).trans ((hf5 (b + 12) (by omega)).trans ((hf4 (b + 12) (by omega) (by omega) (by omega) (by omega) (by omega)).trans ((hf3 (b + 12) (by omega) (by omega) (by omega) (by omega) (by omega) (by omega) (by omega) (by omega) (by omega) (by omega) (by omega) (by omega)).trans ((hf2 (b + 12) (by omega) (by omega) (by omega) (by omega) (by omega) (by omega) (by omega) (by omega) (by omega) (by omega) (by omega) (by omega) (by omega) (by omega)).trans hw1_0)))))))), ((hf9 (b + 11) (by omega) (by omega) (by omega) (by omega) (by omega)).trans ((hf8 (b + 11) ).trans ((hf7 (b + 11) ).trans ((hf6 (b + 11) (by omega) (by omega) (by omega) (by omega)).trans ((hf5 (b + 11) (by omega)).trans ((hf4 (b + 11) (by omega) (by omega) (by omega) (by omega) (by omega)).trans ((hf3 (b + 11) (by omega) (by omega) (by omega) (by omega) (by omega) (by omega) (by omega) (by omega) (by omega) (by omega) (by omega) (by omega)).trans ((hf2 (b + 11) (by omega) (by omega) (by omega) (by omega) (by omega) (by omega) (by omega) (by omega) (by omega) (by omega) (by omega) (by omega) (by omega) (by omega)).trans hw1_1)))))))), ((hf9 (b) (by omega) (by omega) (by omega) (by omega) (by omega)).trans ((hf8 (b) ).trans ((hf7 (b) ).trans ((hf6 (b) (by omega) (by omega) (by omega) (by omega)).trans ((hf5 (b) (by omega)).trans ((hf4 (b) (by omega) (by omega) (by omega) (by omega) (by omega)).trans ((hf3 (b) (by omega) (by omega) (by omega) (by omega) (by omega) (by omega) (by omega) (by omega) (by omega) (by omega) (by omega) (by omega)).trans ((hf2 (b) (by omega) (by omega) (by omega) (by omega) (by omega) (by omega) (by omega) (by omega) (by omega) (by omega) (by omega) (by omega) (by omega) (by omega)).trans hw1_2)))))))), ((hf9 (b + 1) (by omega) (by omega) (by omega) (by omega) (by omega)).trans ((hf8 (b + 1) ).trans ((hf7 (b + 1) ).trans ((hf6 (b + 1) (by omega) (by omega) (by omega) (by omega)).trans ((hf5 (b + 1) (by omega)).trans ((hf4 (b + 1) (by omega) (by omega) (by omega) (by omega) (by omega)).trans ((hf3 (b + 1) (by omega) (by omega) (by omega) (by omega) (by omega) (by omega) (by omega) (by omega) (by omega) (by omega) (by omega) (by omega)).trans ((hf2 (b + 1) (by omega) (by omega) (by omega) (by omega) (by omega) (by omega) (by omega) (by omega) (by omega) (by omega) (by omega) (by omega) (by omega) (by omega)).trans hw1_3)))))))), ((hf9 (n) (by omega) (by omega) (by omega) (by omega) (by omega)).trans ((hf8 (n) ).trans ((hf7 (n) ).trans hw6_3))), ((hf9 (n + 1) (by omega) (by omega) (by omega) (by omega) (by omega)).trans ((hf8 (n + 1) ).trans ((hf7 (n + 1) ).trans ((hf6 (n + 1) (by omega) (by omega) (by omega) (by omega)).trans ((hf5 (n + 1) (by omega)).trans ((hf4 (n + 1) (by omega) (by omega) (by omega) (by omega) (by omega)).trans hw3_9)))))), ((hf9 (n + 2) (by omega) (by omega) (by omega) (by omega) (by omega)).trans ((hf8 (n + 2) ).trans ((hf7 (n + 2) ).trans ((hf6 (n + 2) (by omega) (by omega) (by omega) (by omega)).trans ((hf5 (n + 2) (by omega)).trans ((hf4 (n + 2) (by omega) (by omega) (by omega) (by omega) (by omega)).trans ((hf3 (n + 2) (by omega) (by omega) (by omega) (by omega) (by omega) (by omega) (by omega) (by omega) (by omega) (by omega) (by omega) (by omega)).trans hw2_2))))))), ((hf9 (n + 3) (by omega) (by omega) (by omega) (by omega) (by omega)).trans ((hf8 (n + 3) ).trans ((hf7 (n + 3) ).trans ((hf6 (n + 3) (by omega) (by omega) (by omega) (by omega)).trans ((hf5 (n + 3) (by omega)).trans ((hf4 (n + 3) (by omega) (by omega) (by omega) (by omega) (by omega)).trans hw3_11)))))), ((hf9 (n + 4) (by omega) (by omega) (by omega) (by omega) (by omega)).trans ((hf8 (n + 4) ).trans ((hf7 (n + 4) ).trans ((hf6 (n + 4) (by omega) (by omega) (by omega) (by omega)).trans ((hf5 (n + 4) (by omega)).trans ((hf4 (n + 4) (by omega) (by omega) (by omega) (by omega) (by omega)).trans hw3_10)))))), ((hf9 (n + 5) (by omega) (by omega) (by omega) (by omega) (by omega)).trans ((hf8 (n + 5) ).trans ((hf7 (n + 5) ).trans ((hf6 (n + 5) (by omega) (by omega) (by omega) (by omega)).trans ((hf5 (n + 5) (by omega)).trans ((hf4 (n + 5) (by omega) (by omega) (by omega) (by omega) (by omega)).trans ((hf3 (n + 5) (by omega) (by omega) (by omega) (by omega) (by omega) (by omega) (by omega) (by omega) (by omega) (by omega) (by omega) (by omega)).trans hw2_5))))))), ((hf9 (n + 6) (by omega) (by omega) (by omega) (by omega) (by omega)).trans ((hf8 (n + 6) ).trans ((hf7 (n + 6) ).trans ((hf6 (n + 6) (by omega) (by omega) (by omega) (by omega)).trans ((hf5 (n + 6) (by omega)).trans ((hf4 (n + 6) (by omega) (by omega) (by omega) (by omega) (by omega)).trans ((hf3 (n + 6) (by omega) (by omega) (by omega) (by omega) (by omega) (by omega) (by omega) (by omega) (by omega) (by omega) (by omega) (by omega)).trans hw2_6))))))), ((hf9 (n + 7) (by omega) (by omega) (by omega) (by omega) (by omega)).trans ((hf8 (n + 7) ).trans ((hf7 (n + 7) ).trans ((hf6 (n + 7) (by omega) (by omega) (by omega) (by omega)).trans ((hf5 (n + 7) (by omega)).trans ((hf4 (n + 7) (by omega) (by omega) (by omega) (by omega) (by omega)).trans hw3_2)))))), ((hf9 (n + 8) (by omega) (by omega) (by omega) (by omega) (by omega)).trans ((hf8 (n + 8) ).trans ((hf7 (n + 8) ).trans ((hf6 (n + 8) (by omega) (by omega) (by omega) (by omega)).trans ((hf5 (n + 8) (by omega)).trans ((hf4 (n + 8) (by omega) (by omega) (by omega) (by omega) (by omega)).trans hw3_1)))))), ((hf9 (n + 9) (by omega) (by omega) (by omega) (by omega) (by omega)).trans ((hf8 (n + 9) ).trans ((hf7 (n + 9) ).trans ((hf6 (n + 9) (by omega) (by omega) (by omega) (by omega)).trans ((hf5 (n + 9) (by omega)).trans ((hf4 (n + 9) (by omega) (by omega) (by omega) (by omega) (by omega)).trans ((hf3 (n + 9) (by omega) (by omega) (by omega) (by omega) (by omega) (by omega) (by omega) (by omega) (by omega) (by omega) (by omega) (by omega)).trans hw2_9))))))), ((hf9 (n + 10) (by omega) (by omega) (by omega) (by omega) (by omega)).trans ((hf8 (n + 10) ).trans ((hf7 (n + 10) ).trans ((hf6 (n + 10) (by omega) (by omega) (by omega) (by omega)).trans ((hf5 (n + 10) (by omega)).trans ((hf4 (n + 10) (by omega) (by omega) (by omega) (by omega) (by omega)).trans hw3_3)))))), ((hf9 (n + 11) (by omega) (by omega) (by omega) (by omega) (by omega)).trans ((hf8 (n + 11) ).trans ((hf7 (n + 11) ).trans ((hf6 (n + 11) (by omega) (by omega) (by omega) (by omega)).trans ((hf5 (n + 11) (by omega)).trans ((hf4 (n + 11) (by omega) (by omega) (by omega) (by omega) (by omega)).trans hw3_4)))))), ((hf9 (n + 12) (by omega) (by omega) (by omega) (by omega) (by omega)).trans ((hf8 (n + 12) ).trans ((hf7 (n + 12) ).trans ((hf6 (n + 12) (by omega) (by omega) (by omega) (by omega)).trans ((hf5 (n + 12) (by omega)).trans ((hf4 (n + 12) (by omega) (by omega) (by omega) (by omega) (by omega)).trans hw3_5)))))), ((hf9 (b + 4) (by omega) (by omega) (by omega) (by omega) (by omega)).trans ((hf8 (b + 4) ).trans ((hf7 (b + 4) ).trans ((hf6 (b + 4) (by omega) (by omega) (by omega) (by omega)).trans ((hf5 (b + 4) (by omega)).trans ((hf4 (b + 4) (by omega) (by omega) (by omega) (by omega) (by omega)).trans ((hf3 (b + 4) (by omega) (by omega) (by omega) (by omega) (by omega) (by omega) (by omega) (by omega) (by omega) (by omega) (by omega) (by omega)).trans hw2_13))))))), hw9_0, hw9_1, hw9_2, hw9_3, hw9_4, by omega⟩
