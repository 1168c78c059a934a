theorem d_Ro_init_0 : decode b_Ro_init 0 = .ok (.aload_n 0, 1) := by decide +kernel
theorem d_Ro_init_1 : decode b_Ro_init 1 = .ok (.invokespecial 3, 3) := by decide +kernel
theorem d_Ro_init_4 : decode b_Ro_init 4 = .ok (.aload_n 0, 1) := by decide +kernel
theorem d_Ro_init_5 : decode b_Ro_init 5 = .ok (.sipush 300, 3) := by decide +kernel
theorem d_Ro_init_8 : decode b_Ro_init 8 = .ok (.newarray .char, 2) := by decide +kernel
theorem d_Ro_init_10 : decode b_Ro_init 10 = .ok (.putfield 9, 3) := by decide +kernel
theorem d_Ro_init_13 : decode b_Ro_init 13 = .ok (.aload_n 0, 1) := by decide +kernel
theorem d_Ro_init_14 : decode b_Ro_init 14 = .ok (.iconst 0, 1) := by decide +kernel
theorem d_Ro_init_15 : decode b_Ro_init 15 = .ok (.putfield 15, 3) := by decide +kernel
theorem d_Ro_init_18 : decode b_Ro_init 18 = .ok (.return_, 1) := by decide +kernel
theorem d_It_init_0 : decode b_It_init 0 = .ok (.aload_n 0, 1) := by decide +kernel
theorem d_It_init_1 : decode b_It_init 1 = .ok (.invokespecial 3, 3) := by decide +kernel
theorem d_It_init_4 : decode b_It_init 4 = .ok (.aload_n 0, 1) := by decide +kernel
theorem d_It_init_5 : decode b_It_init 5 = .ok (.new 9, 3) := by decide +kernel
theorem d_It_init_8 : decode b_It_init 8 = .ok (.dup, 1) := by decide +kernel
theorem d_It_init_9 : decode b_It_init 9 = .ok (.invokespecial 11, 3) := by decide +kernel
theorem d_It_init_12 : decode b_It_init 12 = .ok (.putfield 12, 3) := by decide +kernel
theorem d_It_init_15 : decode b_It_init 15 = .ok (.aload_n 0, 1) := by decide +kernel
theorem d_It_init_16 : decode b_It_init 16 = .ok (.sipush 150, 3) := by decide +kernel
theorem d_It_init_19 : decode b_It_init 19 = .ok (.newarray .int, 2) := by decide +kernel
theorem d_It_init_21 : decode b_It_init 21 = .ok (.putfield 18, 3) := by decide +kernel
theorem d_It_init_24 : decode b_It_init 24 = .ok (.aload_n 0, 1) := by decide +kernel
theorem d_It_init_25 : decode b_It_init 25 = .ok (.iconst 0, 1) := by decide +kernel
theorem d_It_init_26 : decode b_It_init 26 = .ok (.putfield 22, 3) := by decide +kernel
theorem d_It_init_29 : decode b_It_init 29 = .ok (.return_, 1) := by decide +kernel
theorem d_Te_init_0 : decode b_Te_init 0 = .ok (.aload_n 0, 1) := by decide +kernel
theorem d_Te_init_1 : decode b_Te_init 1 = .ok (.invokespecial 3, 3) := by decide +kernel
theorem d_Te_init_4 : decode b_Te_init 4 = .ok (.aload_n 0, 1) := by decide +kernel
theorem d_Te_init_5 : decode b_Te_init 5 = .ok (.new 9, 3) := by decide +kernel
theorem d_Te_init_8 : decode b_Te_init 8 = .ok (.dup, 1) := by decide +kernel
theorem d_Te_init_9 : decode b_Te_init 9 = .ok (.invokespecial 11, 3) := by decide +kernel
theorem d_Te_init_12 : decode b_Te_init 12 = .ok (.putfield 12, 3) := by decide +kernel
theorem d_Te_init_15 : decode b_Te_init 15 = .ok (.aload_n 0, 1) := by decide +kernel
theorem d_Te_init_16 : decode b_Te_init 16 = .ok (.bipush 100, 2) := by decide +kernel
theorem d_Te_init_18 : decode b_Te_init 18 = .ok (.newarray .int, 2) := by decide +kernel
theorem d_Te_init_20 : decode b_Te_init 20 = .ok (.putfield 18, 3) := by decide +kernel
theorem d_Te_init_23 : decode b_Te_init 23 = .ok (.aload_n 0, 1) := by decide +kernel
theorem d_Te_init_24 : decode b_Te_init 24 = .ok (.bipush 100, 2) := by decide +kernel
theorem d_Te_init_26 : decode b_Te_init 26 = .ok (.newarray .int, 2) := by decide +kernel
theorem d_Te_init_28 : decode b_Te_init 28 = .ok (.putfield 22, 3) := by decide +kernel
theorem d_Te_init_31 : decode b_Te_init 31 = .ok (.aload_n 0, 1) := by decide +kernel
theorem d_Te_init_32 : decode b_Te_init 32 = .ok (.bipush 100, 2) := by decide +kernel
theorem d_Te_init_34 : decode b_Te_init 34 = .ok (.newarray .int, 2) := by decide +kernel
theorem d_Te_init_36 : decode b_Te_init 36 = .ok (.putfield 25, 3) := by decide +kernel
theorem d_Te_init_39 : decode b_Te_init 39 = .ok (.aload_n 0, 1) := by decide +kernel
theorem d_Te_init_40 : decode b_Te_init 40 = .ok (.iconst 0, 1) := by decide +kernel
theorem d_Te_init_41 : decode b_Te_init 41 = .ok (.putfield 28, 3) := by decide +kernel
theorem d_Te_init_44 : decode b_Te_init 44 = .ok (.return_, 1) := by decide +kernel
theorem d_Sh_init_0 : decode b_Sh_init 0 = .ok (.aload_n 0, 1) := by decide +kernel
theorem d_Sh_init_1 : decode b_Sh_init 1 = .ok (.invokespecial 3, 3) := by decide +kernel
theorem d_Sh_init_4 : decode b_Sh_init 4 = .ok (.aload_n 0, 1) := by decide +kernel
theorem d_Sh_init_5 : decode b_Sh_init 5 = .ok (.bipush 25, 2) := by decide +kernel
theorem d_Sh_init_7 : decode b_Sh_init 7 = .ok (.anewarray 9, 3) := by decide +kernel
theorem d_Sh_init_10 : decode b_Sh_init 10 = .ok (.putfield 11, 3) := by decide +kernel
theorem d_Sh_init_13 : decode b_Sh_init 13 = .ok (.aload_n 0, 1) := by decide +kernel
theorem d_Sh_init_14 : decode b_Sh_init 14 = .ok (.iconst 0, 1) := by decide +kernel
theorem d_Sh_init_15 : decode b_Sh_init 15 = .ok (.putfield 17, 3) := by decide +kernel
theorem d_Sh_init_18 : decode b_Sh_init 18 = .ok (.aload_n 0, 1) := by decide +kernel
theorem d_Sh_init_19 : decode b_Sh_init 19 = .ok (.iconst 0, 1) := by decide +kernel
theorem d_Sh_init_20 : decode b_Sh_init 20 = .ok (.putfield 21, 3) := by decide +kernel
theorem d_Sh_init_23 : decode b_Sh_init 23 = .ok (.return_, 1) := by decide +kernel
theorem d_Th_init_0 : decode b_Th_init 0 = .ok (.aload_n 0, 1) := by decide +kernel
theorem d_Th_init_1 : decode b_Th_init 1 = .ok (.invokespecial 3, 3) := by decide +kernel
theorem d_Th_init_4 : decode b_Th_init 4 = .ok (.aload_n 0, 1) := by decide +kernel
theorem d_Th_init_5 : decode b_Th_init 5 = .ok (.new 9, 3) := by decide +kernel
theorem d_Th_init_8 : decode b_Th_init 8 = .ok (.dup, 1) := by decide +kernel
theorem d_Th_init_9 : decode b_Th_init 9 = .ok (.invokespecial 11, 3) := by decide +kernel
theorem d_Th_init_12 : decode b_Th_init 12 = .ok (.putfield 12, 3) := by decide +kernel
theorem d_Th_init_15 : decode b_Th_init 15 = .ok (.aload_n 0, 1) := by decide +kernel
theorem d_Th_init_16 : decode b_Th_init 16 = .ok (.new 18, 3) := by decide +kernel
theorem d_Th_init_19 : decode b_Th_init 19 = .ok (.dup, 1) := by decide +kernel
theorem d_Th_init_20 : decode b_Th_init 20 = .ok (.invokespecial 20, 3) := by decide +kernel
theorem d_Th_init_23 : decode b_Th_init 23 = .ok (.putfield 21, 3) := by decide +kernel
theorem d_Th_init_26 : decode b_Th_init 26 = .ok (.aload_n 0, 1) := by decide +kernel
theorem d_Th_init_27 : decode b_Th_init 27 = .ok (.new 25, 3) := by decide +kernel
theorem d_Th_init_30 : decode b_Th_init 30 = .ok (.dup, 1) := by decide +kernel
theorem d_Th_init_31 : decode b_Th_init 31 = .ok (.invokespecial 27, 3) := by decide +kernel
theorem d_Th_init_34 : decode b_Th_init 34 = .ok (.putfield 28, 3) := by decide +kernel
theorem d_Th_init_37 : decode b_Th_init 37 = .ok (.aload_n 0, 1) := by decide +kernel
theorem d_Th_init_38 : decode b_Th_init 38 = .ok (.iconst 0, 1) := by decide +kernel
theorem d_Th_init_39 : decode b_Th_init 39 = .ok (.putfield 32, 3) := by decide +kernel
theorem d_Th_init_42 : decode b_Th_init 42 = .ok (.aload_n 0, 1) := by decide +kernel
theorem d_Th_init_43 : decode b_Th_init 43 = .ok (.bipush (-2), 2) := by decide +kernel
theorem d_Th_init_45 : decode b_Th_init 45 = .ok (.putfield 36, 3) := by decide +kernel
theorem d_Th_init_48 : decode b_Th_init 48 = .ok (.aload_n 0, 1) := by decide +kernel
theorem d_Th_init_49 : decode b_Th_init 49 = .ok (.bipush (-2), 2) := by decide +kernel
theorem d_Th_init_51 : decode b_Th_init 51 = .ok (.putfield 39, 3) := by decide +kernel
theorem d_Th_init_54 : decode b_Th_init 54 = .ok (.aload_n 0, 1) := by decide +kernel
theorem d_Th_init_55 : decode b_Th_init 55 = .ok (.iconst 0, 1) := by decide +kernel
theorem d_Th_init_56 : decode b_Th_init 56 = .ok (.putfield 42, 3) := by decide +kernel
theorem d_Th_init_59 : decode b_Th_init 59 = .ok (.aload_n 0, 1) := by decide +kernel
theorem d_Th_init_60 : decode b_Th_init 60 = .ok (.iconst 0, 1) := by decide +kernel
theorem d_Th_init_61 : decode b_Th_init 61 = .ok (.putfield 46, 3) := by decide +kernel
theorem d_Th_init_64 : decode b_Th_init 64 = .ok (.aload_n 0, 1) := by decide +kernel
theorem d_Th_init_65 : decode b_Th_init 65 = .ok (.iconst 0, 1) := by decide +kernel
theorem d_Th_init_66 : decode b_Th_init 66 = .ok (.putfield 49, 3) := by decide +kernel
theorem d_Th_init_69 : decode b_Th_init 69 = .ok (.aload_n 0, 1) := by decide +kernel
theorem d_Th_init_70 : decode b_Th_init 70 = .ok (.iconst 0, 1) := by decide +kernel
theorem d_Th_init_71 : decode b_Th_init 71 = .ok (.putfield 52, 3) := by decide +kernel
theorem d_Th_init_74 : decode b_Th_init 74 = .ok (.aload_n 0, 1) := by decide +kernel
theorem d_Th_init_75 : decode b_Th_init 75 = .ok (.iconst 0, 1) := by decide +kernel
theorem d_Th_init_76 : decode b_Th_init 76 = .ok (.putfield 55, 3) := by decide +kernel
theorem d_Th_init_79 : decode b_Th_init 79 = .ok (.aload_n 0, 1) := by decide +kernel
theorem d_Th_init_80 : decode b_Th_init 80 = .ok (.iconst 0, 1) := by decide +kernel
theorem d_Th_init_81 : decode b_Th_init 81 = .ok (.putfield 58, 3) := by decide +kernel
theorem d_Th_init_84 : decode b_Th_init 84 = .ok (.aload_n 0, 1) := by decide +kernel
theorem d_Th_init_85 : decode b_Th_init 85 = .ok (.iconst 0, 1) := by decide +kernel
theorem d_Th_init_86 : decode b_Th_init 86 = .ok (.putfield 61, 3) := by decide +kernel
theorem d_Th_init_89 : decode b_Th_init 89 = .ok (.return_, 1) := by decide +kernel
theorem d_VS_init_0 : decode b_VS_init 0 = .ok (.aload_n 0, 1) := by decide +kernel
theorem d_VS_init_1 : decode b_VS_init 1 = .ok (.invokespecial 3, 3) := by decide +kernel
theorem d_VS_init_4 : decode b_VS_init 4 = .ok (.aload_n 0, 1) := by decide +kernel
theorem d_VS_init_5 : decode b_VS_init 5 = .ok (.new 9, 3) := by decide +kernel
theorem d_VS_init_8 : decode b_VS_init 8 = .ok (.dup, 1) := by decide +kernel
theorem d_VS_init_9 : decode b_VS_init 9 = .ok (.invokespecial 11, 3) := by decide +kernel
theorem d_VS_init_12 : decode b_VS_init 12 = .ok (.putfield 12, 3) := by decide +kernel
theorem d_VS_init_15 : decode b_VS_init 15 = .ok (.aload_n 0, 1) := by decide +kernel
theorem d_VS_init_16 : decode b_VS_init 16 = .ok (.new 16, 3) := by decide +kernel
theorem d_VS_init_19 : decode b_VS_init 19 = .ok (.dup, 1) := by decide +kernel
theorem d_VS_init_20 : decode b_VS_init 20 = .ok (.invokespecial 18, 3) := by decide +kernel
theorem d_VS_init_23 : decode b_VS_init 23 = .ok (.putfield 19, 3) := by decide +kernel
theorem d_VS_init_26 : decode b_VS_init 26 = .ok (.aload_n 0, 1) := by decide +kernel
theorem d_VS_init_27 : decode b_VS_init 27 = .ok (.new 23, 3) := by decide +kernel
theorem d_VS_init_30 : decode b_VS_init 30 = .ok (.dup, 1) := by decide +kernel
theorem d_VS_init_31 : decode b_VS_init 31 = .ok (.invokespecial 25, 3) := by decide +kernel
theorem d_VS_init_34 : decode b_VS_init 34 = .ok (.putfield 26, 3) := by decide +kernel
theorem d_VS_init_37 : decode b_VS_init 37 = .ok (.aload_n 0, 1) := by decide +kernel
theorem d_VS_init_38 : decode b_VS_init 38 = .ok (.new 23, 3) := by decide +kernel
theorem d_VS_init_41 : decode b_VS_init 41 = .ok (.dup, 1) := by decide +kernel
theorem d_VS_init_42 : decode b_VS_init 42 = .ok (.invokespecial 25, 3) := by decide +kernel
theorem d_VS_init_45 : decode b_VS_init 45 = .ok (.putfield 30, 3) := by decide +kernel
theorem d_VS_init_48 : decode b_VS_init 48 = .ok (.aload_n 0, 1) := by decide +kernel
theorem d_VS_init_49 : decode b_VS_init 49 = .ok (.iconst (-1), 1) := by decide +kernel
theorem d_VS_init_50 : decode b_VS_init 50 = .ok (.putfield 33, 3) := by decide +kernel
theorem d_VS_init_53 : decode b_VS_init 53 = .ok (.aload_n 0, 1) := by decide +kernel
theorem d_VS_init_54 : decode b_VS_init 54 = .ok (.iconst 0, 1) := by decide +kernel
theorem d_VS_init_55 : decode b_VS_init 55 = .ok (.putfield 37, 3) := by decide +kernel
theorem d_VS_init_58 : decode b_VS_init 58 = .ok (.aload_n 0, 1) := by decide +kernel
theorem d_VS_init_59 : decode b_VS_init 59 = .ok (.new 9, 3) := by decide +kernel
theorem d_VS_init_62 : decode b_VS_init 62 = .ok (.dup, 1) := by decide +kernel
theorem d_VS_init_63 : decode b_VS_init 63 = .ok (.invokespecial 11, 3) := by decide +kernel
theorem d_VS_init_66 : decode b_VS_init 66 = .ok (.putfield 40, 3) := by decide +kernel
theorem d_VS_init_69 : decode b_VS_init 69 = .ok (.aload_n 0, 1) := by decide +kernel
theorem d_VS_init_70 : decode b_VS_init 70 = .ok (.new 9, 3) := by decide +kernel
theorem d_VS_init_73 : decode b_VS_init 73 = .ok (.dup, 1) := by decide +kernel
theorem d_VS_init_74 : decode b_VS_init 74 = .ok (.invokespecial 11, 3) := by decide +kernel
theorem d_VS_init_77 : decode b_VS_init 77 = .ok (.putfield 43, 3) := by decide +kernel
theorem d_VS_init_80 : decode b_VS_init 80 = .ok (.aload_n 0, 1) := by decide +kernel
theorem d_VS_init_81 : decode b_VS_init 81 = .ok (.new 46, 3) := by decide +kernel
theorem d_VS_init_84 : decode b_VS_init 84 = .ok (.dup, 1) := by decide +kernel
theorem d_VS_init_85 : decode b_VS_init 85 = .ok (.invokespecial 48, 3) := by decide +kernel
theorem d_VS_init_88 : decode b_VS_init 88 = .ok (.putfield 49, 3) := by decide +kernel
theorem d_VS_init_91 : decode b_VS_init 91 = .ok (.aload_n 0, 1) := by decide +kernel
theorem d_VS_init_92 : decode b_VS_init 92 = .ok (.new 46, 3) := by decide +kernel
theorem d_VS_init_95 : decode b_VS_init 95 = .ok (.dup, 1) := by decide +kernel
theorem d_VS_init_96 : decode b_VS_init 96 = .ok (.invokespecial 48, 3) := by decide +kernel
theorem d_VS_init_99 : decode b_VS_init 99 = .ok (.putfield 53, 3) := by decide +kernel
theorem d_VS_init_102 : decode b_VS_init 102 = .ok (.aload_n 0, 1) := by decide +kernel
theorem d_VS_init_103 : decode b_VS_init 103 = .ok (.new 46, 3) := by decide +kernel
theorem d_VS_init_106 : decode b_VS_init 106 = .ok (.dup, 1) := by decide +kernel
theorem d_VS_init_107 : decode b_VS_init 107 = .ok (.invokespecial 48, 3) := by decide +kernel
theorem d_VS_init_110 : decode b_VS_init 110 = .ok (.putfield 56, 3) := by decide +kernel
theorem d_VS_init_113 : decode b_VS_init 113 = .ok (.return_, 1) := by decide +kernel
theorem d_Ro_clear_0 : decode b_Ro_clear 0 = .ok (.aload_n 0, 1) := by decide +kernel
theorem d_Ro_clear_1 : decode b_Ro_clear 1 = .ok (.iconst 0, 1) := by decide +kernel
theorem d_Ro_clear_2 : decode b_Ro_clear 2 = .ok (.putfield 15, 3) := by decide +kernel
theorem d_Ro_clear_5 : decode b_Ro_clear 5 = .ok (.return_, 1) := by decide +kernel
theorem d_Ro_copy_0 : decode b_Ro_copy 0 = .ok (.aload_n 1, 1) := by decide +kernel
theorem d_Ro_copy_1 : decode b_Ro_copy 1 = .ok (.getfield 9, 3) := by decide +kernel
theorem d_Ro_copy_4 : decode b_Ro_copy 4 = .ok (.iconst 0, 1) := by decide +kernel
theorem d_Ro_copy_5 : decode b_Ro_copy 5 = .ok (.aload_n 0, 1) := by decide +kernel
theorem d_Ro_copy_6 : decode b_Ro_copy 6 = .ok (.getfield 9, 3) := by decide +kernel
theorem d_Ro_copy_9 : decode b_Ro_copy 9 = .ok (.iconst 0, 1) := by decide +kernel
theorem d_Ro_copy_10 : decode b_Ro_copy 10 = .ok (.aload_n 1, 1) := by decide +kernel
theorem d_Ro_copy_11 : decode b_Ro_copy 11 = .ok (.getfield 15, 3) := by decide +kernel
theorem d_Ro_copy_14 : decode b_Ro_copy 14 = .ok (.invokestatic 19, 3) := by decide +kernel
theorem d_Ro_copy_17 : decode b_Ro_copy 17 = .ok (.aload_n 0, 1) := by decide +kernel
theorem d_Ro_copy_18 : decode b_Ro_copy 18 = .ok (.aload_n 1, 1) := by decide +kernel
theorem d_Ro_copy_19 : decode b_Ro_copy 19 = .ok (.getfield 15, 3) := by decide +kernel
theorem d_Ro_copy_22 : decode b_Ro_copy 22 = .ok (.putfield 15, 3) := by decide +kernel
theorem d_Ro_copy_25 : decode b_Ro_copy 25 = .ok (.return_, 1) := by decide +kernel
theorem d_St_coder_0 : decode b_St_coder 0 = .ok (.getstatic 38, 3) := by decide +kernel
theorem d_St_coder_3 : decode b_St_coder 3 = .ok (.ifCond .eq 10, 3) := by decide +kernel
theorem d_St_coder_6 : decode b_St_coder 6 = .ok (.aload_n 0, 1) := by decide +kernel
theorem d_St_coder_7 : decode b_St_coder 7 = .ok (.getfield 15, 3) := by decide +kernel
theorem d_St_coder_10 : decode b_St_coder 10 = .ok (.goto 4, 3) := by decide +kernel
theorem d_St_coder_14 : decode b_St_coder 14 = .ok (.ireturn, 1) := by decide +kernel
theorem d_St_isLatin1_0 : decode b_St_isLatin1 0 = .ok (.getstatic 38, 3) := by decide +kernel
theorem d_St_isLatin1_3 : decode b_St_isLatin1 3 = .ok (.ifCond .eq 14, 3) := by decide +kernel
theorem d_St_isLatin1_6 : decode b_St_isLatin1 6 = .ok (.aload_n 0, 1) := by decide +kernel
theorem d_St_isLatin1_7 : decode b_St_isLatin1 7 = .ok (.getfield 15, 3) := by decide +kernel
theorem d_St_isLatin1_10 : decode b_St_isLatin1 10 = .ok (.ifCond .ne 7, 3) := by decide +kernel
theorem d_St_isLatin1_13 : decode b_St_isLatin1 13 = .ok (.iconst 1, 1) := by decide +kernel
theorem d_St_isLatin1_14 : decode b_St_isLatin1 14 = .ok (.goto 4, 3) := by decide +kernel
theorem d_St_isLatin1_18 : decode b_St_isLatin1 18 = .ok (.ireturn, 1) := by decide +kernel
theorem d_St_length_0 : decode b_St_length 0 = .ok (.aload_n 0, 1) := by decide +kernel
theorem d_St_length_1 : decode b_St_length 1 = .ok (.getfield 9, 3) := by decide +kernel
theorem d_St_length_4 : decode b_St_length 4 = .ok (.arraylength, 1) := by decide +kernel
theorem d_St_length_5 : decode b_St_length 5 = .ok (.aload_n 0, 1) := by decide +kernel
theorem d_St_length_6 : decode b_St_length 6 = .ok (.invokevirtual 335, 3) := by decide +kernel
theorem d_St_length_9 : decode b_St_length 9 = .ok (.ishr, 1) := by decide +kernel
theorem d_St_length_10 : decode b_St_length 10 = .ok (.ireturn, 1) := by decide +kernel
theorem d_Pr_checkIndex_0 : decode b_Pr_checkIndex 0 = .ok (.iload_n 0, 1) := by decide +kernel
theorem d_Pr_checkIndex_1 : decode b_Pr_checkIndex 1 = .ok (.ifCond .lt 8, 3) := by decide +kernel
theorem d_Pr_checkIndex_4 : decode b_Pr_checkIndex 4 = .ok (.iload_n 0, 1) := by decide +kernel
theorem d_Pr_checkIndex_5 : decode b_Pr_checkIndex 5 = .ok (.iload_n 1, 1) := by decide +kernel
theorem d_Pr_checkIndex_6 : decode b_Pr_checkIndex 6 = .ok (.if_icmp .lt 10, 3) := by decide +kernel
theorem d_Pr_checkIndex_16 : decode b_Pr_checkIndex 16 = .ok (.iload_n 0, 1) := by decide +kernel
theorem d_Pr_checkIndex_17 : decode b_Pr_checkIndex 17 = .ok (.ireturn, 1) := by decide +kernel
theorem d_St_checkIndex_0 : decode b_St_checkIndex 0 = .ok (.iload_n 0, 1) := by decide +kernel
theorem d_St_checkIndex_1 : decode b_St_checkIndex 1 = .ok (.iload_n 1, 1) := by decide +kernel
theorem d_St_checkIndex_2 : decode b_St_checkIndex 2 = .ok (.getstatic 1053, 3) := by decide +kernel
theorem d_St_checkIndex_5 : decode b_St_checkIndex 5 = .ok (.invokestatic 1059, 3) := by decide +kernel
theorem d_St_checkIndex_8 : decode b_St_checkIndex 8 = .ok (.pop, 1) := by decide +kernel
theorem d_St_checkIndex_9 : decode b_St_checkIndex 9 = .ok (.return_, 1) := by decide +kernel
theorem d_L1_charAt_0 : decode b_L1_charAt 0 = .ok (.iload_n 1, 1) := by decide +kernel
theorem d_L1_charAt_1 : decode b_L1_charAt 1 = .ok (.aload_n 0, 1) := by decide +kernel
theorem d_L1_charAt_2 : decode b_L1_charAt 2 = .ok (.arraylength, 1) := by decide +kernel
theorem d_L1_charAt_3 : decode b_L1_charAt 3 = .ok (.invokestatic 9, 3) := by decide +kernel
theorem d_L1_charAt_6 : decode b_L1_charAt 6 = .ok (.aload_n 0, 1) := by decide +kernel
theorem d_L1_charAt_7 : decode b_L1_charAt 7 = .ok (.iload_n 1, 1) := by decide +kernel
theorem d_L1_charAt_8 : decode b_L1_charAt 8 = .ok (.baload, 1) := by decide +kernel
theorem d_L1_charAt_9 : decode b_L1_charAt 9 = .ok (.sipush 255, 3) := by decide +kernel
theorem d_L1_charAt_12 : decode b_L1_charAt 12 = .ok (.iand, 1) := by decide +kernel
theorem d_L1_charAt_13 : decode b_L1_charAt 13 = .ok (.i2c, 1) := by decide +kernel
theorem d_L1_charAt_14 : decode b_L1_charAt 14 = .ok (.ireturn, 1) := by decide +kernel
theorem d_St_charAt_0 : decode b_St_charAt 0 = .ok (.aload_n 0, 1) := by decide +kernel
theorem d_St_charAt_1 : decode b_St_charAt 1 = .ok (.invokevirtual 492, 3) := by decide +kernel
theorem d_St_charAt_4 : decode b_St_charAt 4 = .ok (.ifCond .eq 12, 3) := by decide +kernel
theorem d_St_charAt_7 : decode b_St_charAt 7 = .ok (.aload_n 0, 1) := by decide +kernel
theorem d_St_charAt_8 : decode b_St_charAt 8 = .ok (.getfield 9, 3) := by decide +kernel
theorem d_St_charAt_11 : decode b_St_charAt 11 = .ok (.iload_n 1, 1) := by decide +kernel
theorem d_St_charAt_12 : decode b_St_charAt 12 = .ok (.invokestatic 495, 3) := by decide +kernel
theorem d_St_charAt_15 : decode b_St_charAt 15 = .ok (.ireturn, 1) := by decide +kernel
theorem d_Ro_add_0 : decode b_Ro_add 0 = .ok (.aload_n 0, 1) := by decide +kernel
theorem d_Ro_add_1 : decode b_Ro_add 1 = .ok (.getfield 15, 3) := by decide +kernel
theorem d_Ro_add_4 : decode b_Ro_add 4 = .ok (.aload_n 0, 1) := by decide +kernel
theorem d_Ro_add_5 : decode b_Ro_add 5 = .ok (.getfield 9, 3) := by decide +kernel
theorem d_Ro_add_8 : decode b_Ro_add 8 = .ok (.arraylength, 1) := by decide +kernel
theorem d_Ro_add_9 : decode b_Ro_add 9 = .ok (.if_icmp .ge 23, 3) := by decide +kernel
theorem d_Ro_add_12 : decode b_Ro_add 12 = .ok (.aload_n 0, 1) := by decide +kernel
theorem d_Ro_add_13 : decode b_Ro_add 13 = .ok (.getfield 9, 3) := by decide +kernel
theorem d_Ro_add_16 : decode b_Ro_add 16 = .ok (.aload_n 0, 1) := by decide +kernel
theorem d_Ro_add_17 : decode b_Ro_add 17 = .ok (.getfield 15, 3) := by decide +kernel
theorem d_Ro_add_20 : decode b_Ro_add 20 = .ok (.iload_n 1, 1) := by decide +kernel
theorem d_Ro_add_21 : decode b_Ro_add 21 = .ok (.castore, 1) := by decide +kernel
theorem d_Ro_add_22 : decode b_Ro_add 22 = .ok (.aload_n 0, 1) := by decide +kernel
theorem d_Ro_add_23 : decode b_Ro_add 23 = .ok (.dup, 1) := by decide +kernel
theorem d_Ro_add_24 : decode b_Ro_add 24 = .ok (.getfield 15, 3) := by decide +kernel
theorem d_Ro_add_27 : decode b_Ro_add 27 = .ok (.iconst 1, 1) := by decide +kernel
theorem d_Ro_add_28 : decode b_Ro_add 28 = .ok (.iadd, 1) := by decide +kernel
theorem d_Ro_add_29 : decode b_Ro_add 29 = .ok (.putfield 15, 3) := by decide +kernel
theorem d_Ro_add_32 : decode b_Ro_add 32 = .ok (.return_, 1) := by decide +kernel
theorem d_Ro_set_7 : decode b_Ro_set 7 = .ok (.iload_n 2, 1) := by decide +kernel
theorem d_Ro_set_8 : decode b_Ro_set 8 = .ok (.aload_n 1, 1) := by decide +kernel
theorem d_Ro_set_9 : decode b_Ro_set 9 = .ok (.invokevirtual 25, 3) := by decide +kernel
theorem d_Ro_set_12 : decode b_Ro_set 12 = .ok (.if_icmp .ge 18, 3) := by decide +kernel
theorem d_Ro_set_30 : decode b_Ro_set 30 = .ok (.return_, 1) := by decide +kernel
theorem d_Ro_set_15 : decode b_Ro_set 15 = .ok (.aload_n 0, 1) := by decide +kernel
theorem d_Ro_set_16 : decode b_Ro_set 16 = .ok (.aload_n 1, 1) := by decide +kernel
theorem d_Ro_set_17 : decode b_Ro_set 17 = .ok (.iload_n 2, 1) := by decide +kernel
theorem d_Ro_set_18 : decode b_Ro_set 18 = .ok (.invokevirtual 30, 3) := by decide +kernel
theorem d_Ro_set_21 : decode b_Ro_set 21 = .ok (.invokevirtual 34, 3) := by decide +kernel
theorem d_Ro_set_24 : decode b_Ro_set 24 = .ok (.iinc 2 1, 3) := by decide +kernel
theorem d_Ro_set_27 : decode b_Ro_set 27 = .ok (.goto (-20), 3) := by decide +kernel
theorem d_Ro_set_0 : decode b_Ro_set 0 = .ok (.aload_n 0, 1) := by decide +kernel
theorem d_Ro_set_1 : decode b_Ro_set 1 = .ok (.iconst 0, 1) := by decide +kernel
theorem d_Ro_set_2 : decode b_Ro_set 2 = .ok (.putfield 15, 3) := by decide +kernel
theorem d_Ro_set_5 : decode b_Ro_set 5 = .ok (.iconst 0, 1) := by decide +kernel
theorem d_Ro_set_6 : decode b_Ro_set 6 = .ok (.istore_n 2, 1) := by decide +kernel
theorem d_Ro_skipBlanks_0 : decode b_Ro_skipBlanks 0 = .ok (.iload_n 1, 1) := by decide +kernel
theorem d_Ro_skipBlanks_1 : decode b_Ro_skipBlanks 1 = .ok (.istore_n 3, 1) := by decide +kernel
theorem d_Ro_skipBlanks_2 : decode b_Ro_skipBlanks 2 = .ok (.iload_n 3, 1) := by decide +kernel
theorem d_Ro_skipBlanks_3 : decode b_Ro_skipBlanks 3 = .ok (.iload_n 2, 1) := by decide +kernel
theorem d_Ro_skipBlanks_4 : decode b_Ro_skipBlanks 4 = .ok (.if_icmp .ge 19, 3) := by decide +kernel
theorem d_Ro_skipBlanks_23 : decode b_Ro_skipBlanks 23 = .ok (.iload_n 3, 1) := by decide +kernel
theorem d_Ro_skipBlanks_24 : decode b_Ro_skipBlanks 24 = .ok (.ireturn, 1) := by decide +kernel
theorem d_Ro_skipBlanksBack_0 : decode b_Ro_skipBlanksBack 0 = .ok (.iload_n 2, 1) := by decide +kernel
theorem d_Ro_skipBlanksBack_1 : decode b_Ro_skipBlanksBack 1 = .ok (.istore_n 3, 1) := by decide +kernel
theorem d_Ro_skipBlanksBack_2 : decode b_Ro_skipBlanksBack 2 = .ok (.iload_n 3, 1) := by decide +kernel
theorem d_Ro_skipBlanksBack_3 : decode b_Ro_skipBlanksBack 3 = .ok (.iload_n 1, 1) := by decide +kernel
theorem d_Ro_skipBlanksBack_4 : decode b_Ro_skipBlanksBack 4 = .ok (.if_icmp .le 21, 3) := by decide +kernel
theorem d_Ro_skipBlanksBack_25 : decode b_Ro_skipBlanksBack 25 = .ok (.iload_n 3, 1) := by decide +kernel
theorem d_Ro_skipBlanksBack_26 : decode b_Ro_skipBlanksBack 26 = .ok (.ireturn, 1) := by decide +kernel
theorem d_Te_gather_0 : decode b_Te_gather 0 = .ok (.iconst 0, 1) := by decide +kernel
theorem d_Te_gather_1 : decode b_Te_gather 1 = .ok (.istore_n 3, 1) := by decide +kernel
theorem d_Te_gather_2 : decode b_Te_gather 2 = .ok (.aload_n 2, 1) := by decide +kernel
theorem d_Te_gather_3 : decode b_Te_gather 3 = .ok (.invokevirtual 61, 3) := by decide +kernel
theorem d_Te_gather_6 : decode b_Te_gather 6 = .ok (.iconst 0, 1) := by decide +kernel
theorem d_Te_gather_7 : decode b_Te_gather 7 = .ok (.istore 4, 2) := by decide +kernel
theorem d_Te_gather_9 : decode b_Te_gather 9 = .ok (.iload 4, 2) := by decide +kernel
theorem d_Te_gather_11 : decode b_Te_gather 11 = .ok (.aload_n 0, 1) := by decide +kernel
theorem d_Te_gather_12 : decode b_Te_gather 12 = .ok (.getfield 28, 3) := by decide +kernel
theorem d_Te_gather_15 : decode b_Te_gather 15 = .ok (.if_icmp .ge 112, 3) := by decide +kernel
theorem d_Te_gather_127 : decode b_Te_gather 127 = .ok (.iload_n 3, 1) := by decide +kernel
theorem d_Te_gather_128 : decode b_Te_gather 128 = .ok (.ireturn, 1) := by decide +kernel
theorem d_It_addItem_0 : decode b_It_addItem 0 = .ok (.aload_n 1, 1) := by decide +kernel
theorem d_It_addItem_1 : decode b_It_addItem 1 = .ok (.iload_n 2, 1) := by decide +kernel
theorem d_It_addItem_2 : decode b_It_addItem 2 = .ok (.iload_n 3, 1) := by decide +kernel
theorem d_It_addItem_3 : decode b_It_addItem 3 = .ok (.invokevirtual 40, 3) := by decide +kernel
theorem d_It_addItem_6 : decode b_It_addItem 6 = .ok (.istore 4, 2) := by decide +kernel
theorem d_It_addItem_8 : decode b_It_addItem 8 = .ok (.aload_n 1, 1) := by decide +kernel
theorem d_It_addItem_9 : decode b_It_addItem 9 = .ok (.iload 4, 2) := by decide +kernel
theorem d_It_addItem_11 : decode b_It_addItem 11 = .ok (.iload_n 3, 1) := by decide +kernel
theorem d_It_addItem_12 : decode b_It_addItem 12 = .ok (.invokevirtual 44, 3) := by decide +kernel
theorem d_It_addItem_15 : decode b_It_addItem 15 = .ok (.istore 5, 2) := by decide +kernel
theorem d_It_addItem_17 : decode b_It_addItem 17 = .ok (.iload 4, 2) := by decide +kernel
theorem d_It_addItem_19 : decode b_It_addItem 19 = .ok (.iload 5, 2) := by decide +kernel
theorem d_It_addItem_21 : decode b_It_addItem 21 = .ok (.if_icmp .ge 15, 3) := by decide +kernel
theorem d_It_addItem_36 : decode b_It_addItem 36 = .ok (.return_, 1) := by decide +kernel
theorem d_It_cut_0 : decode b_It_cut 0 = .ok (.aload_n 0, 1) := by decide +kernel
theorem d_It_cut_1 : decode b_It_cut 1 = .ok (.getfield 12, 3) := by decide +kernel
theorem d_It_cut_4 : decode b_It_cut 4 = .ok (.invokevirtual 26, 3) := by decide +kernel
theorem d_It_cut_7 : decode b_It_cut 7 = .ok (.aload_n 0, 1) := by decide +kernel
theorem d_It_cut_8 : decode b_It_cut 8 = .ok (.iconst 0, 1) := by decide +kernel
theorem d_It_cut_9 : decode b_It_cut 9 = .ok (.putfield 22, 3) := by decide +kernel
theorem d_It_cut_12 : decode b_It_cut 12 = .ok (.iconst 0, 1) := by decide +kernel
theorem d_It_cut_13 : decode b_It_cut 13 = .ok (.istore_n 2, 1) := by decide +kernel
theorem d_It_cut_14 : decode b_It_cut 14 = .ok (.iconst 0, 1) := by decide +kernel
theorem d_It_cut_15 : decode b_It_cut 15 = .ok (.istore_n 3, 1) := by decide +kernel
theorem d_It_cut_16 : decode b_It_cut 16 = .ok (.iload_n 3, 1) := by decide +kernel
theorem d_It_cut_17 : decode b_It_cut 17 = .ok (.aload_n 1, 1) := by decide +kernel
theorem d_It_cut_18 : decode b_It_cut 18 = .ok (.getfield 29, 3) := by decide +kernel
theorem d_It_cut_21 : decode b_It_cut 21 = .ok (.if_icmp .gt 38, 3) := by decide +kernel
theorem d_It_cut_24 : decode b_It_cut 24 = .ok (.iload_n 3, 1) := by decide +kernel
theorem d_It_cut_25 : decode b_It_cut 25 = .ok (.aload_n 1, 1) := by decide +kernel
theorem d_It_cut_26 : decode b_It_cut 26 = .ok (.getfield 29, 3) := by decide +kernel
theorem d_It_cut_29 : decode b_It_cut 29 = .ok (.if_icmp .eq 13, 3) := by decide +kernel
theorem d_It_cut_42 : decode b_It_cut 42 = .ok (.aload_n 0, 1) := by decide +kernel
theorem d_It_cut_43 : decode b_It_cut 43 = .ok (.aload_n 1, 1) := by decide +kernel
theorem d_It_cut_44 : decode b_It_cut 44 = .ok (.iload_n 2, 1) := by decide +kernel
theorem d_It_cut_45 : decode b_It_cut 45 = .ok (.iload_n 3, 1) := by decide +kernel
theorem d_It_cut_46 : decode b_It_cut 46 = .ok (.invokevirtual 36, 3) := by decide +kernel
theorem d_It_cut_49 : decode b_It_cut 49 = .ok (.iload_n 3, 1) := by decide +kernel
theorem d_It_cut_50 : decode b_It_cut 50 = .ok (.iconst 1, 1) := by decide +kernel
theorem d_It_cut_51 : decode b_It_cut 51 = .ok (.iadd, 1) := by decide +kernel
theorem d_It_cut_52 : decode b_It_cut 52 = .ok (.istore_n 2, 1) := by decide +kernel
theorem d_It_cut_53 : decode b_It_cut 53 = .ok (.iinc 3 1, 3) := by decide +kernel
theorem d_It_cut_56 : decode b_It_cut 56 = .ok (.goto (-40), 3) := by decide +kernel
theorem d_It_cut_59 : decode b_It_cut 59 = .ok (.return_, 1) := by decide +kernel
theorem d_It_said_0 : decode b_It_said 0 = .ok (.bipush (-2), 2) := by decide +kernel
theorem d_It_said_2 : decode b_It_said 2 = .ok (.istore_n 2, 1) := by decide +kernel
theorem d_It_said_3 : decode b_It_said 3 = .ok (.iconst 0, 1) := by decide +kernel
theorem d_It_said_4 : decode b_It_said 4 = .ok (.istore_n 3, 1) := by decide +kernel
theorem d_It_said_5 : decode b_It_said 5 = .ok (.iload_n 3, 1) := by decide +kernel
theorem d_It_said_6 : decode b_It_said 6 = .ok (.aload_n 0, 1) := by decide +kernel
theorem d_It_said_7 : decode b_It_said 7 = .ok (.getfield 22, 3) := by decide +kernel
theorem d_It_said_10 : decode b_It_said 10 = .ok (.if_icmp .ge 36, 3) := by decide +kernel
theorem d_It_said_46 : decode b_It_said 46 = .ok (.iload_n 2, 1) := by decide +kernel
theorem d_It_said_47 : decode b_It_said 47 = .ok (.ireturn, 1) := by decide +kernel
theorem d_It_has_0 : decode b_It_has 0 = .ok (.aload_n 0, 1) := by decide +kernel
theorem d_It_has_1 : decode b_It_has 1 = .ok (.aload_n 1, 1) := by decide +kernel
theorem d_It_has_2 : decode b_It_has 2 = .ok (.invokevirtual 78, 3) := by decide +kernel
theorem d_It_has_5 : decode b_It_has 5 = .ok (.bipush (-2), 2) := by decide +kernel
theorem d_It_has_7 : decode b_It_has 7 = .ok (.if_icmp .eq 7, 3) := by decide +kernel
theorem d_It_has_14 : decode b_It_has 14 = .ok (.iconst 0, 1) := by decide +kernel
theorem d_It_has_15 : decode b_It_has 15 = .ok (.ireturn, 1) := by decide +kernel
theorem d_It_holds_0 : decode b_It_holds 0 = .ok (.iconst 0, 1) := by decide +kernel
theorem d_It_holds_1 : decode b_It_holds 1 = .ok (.istore_n 2, 1) := by decide +kernel
theorem d_It_holds_2 : decode b_It_holds 2 = .ok (.iload_n 2, 1) := by decide +kernel
theorem d_It_holds_3 : decode b_It_holds 3 = .ok (.aload_n 0, 1) := by decide +kernel
theorem d_It_holds_4 : decode b_It_holds 4 = .ok (.getfield 22, 3) := by decide +kernel
theorem d_It_holds_7 : decode b_It_holds 7 = .ok (.if_icmp .ge 40, 3) := by decide +kernel
theorem d_It_holds_47 : decode b_It_holds 47 = .ok (.iconst 0, 1) := by decide +kernel
theorem d_It_holds_48 : decode b_It_holds 48 = .ok (.ireturn, 1) := by decide +kernel
theorem d_Ro_number_0 : decode b_Ro_number 0 = .ok (.iload_n 2, 1) := by decide +kernel
theorem d_Ro_number_1 : decode b_Ro_number 1 = .ok (.iload_n 1, 1) := by decide +kernel
theorem d_Ro_number_2 : decode b_Ro_number 2 = .ok (.isub, 1) := by decide +kernel
theorem d_Ro_number_3 : decode b_Ro_number 3 = .ok (.iconst 1, 1) := by decide +kernel
theorem d_Ro_number_4 : decode b_Ro_number 4 = .ok (.if_icmp .lt 11, 3) := by decide +kernel
theorem d_Ro_number_15 : decode b_Ro_number 15 = .ok (.iconst (-1), 1) := by decide +kernel
theorem d_Ro_number_16 : decode b_Ro_number 16 = .ok (.ireturn, 1) := by decide +kernel
theorem d_VS_gather_0 : decode b_VS_gather 0 = .ok (.aload_n 0, 1) := by decide +kernel
theorem d_VS_gather_1 : decode b_VS_gather 1 = .ok (.getfield 40, 3) := by decide +kernel
theorem d_VS_gather_4 : decode b_VS_gather 4 = .ok (.aload_n 2, 1) := by decide +kernel
theorem d_VS_gather_5 : decode b_VS_gather 5 = .ok (.invokevirtual 212, 3) := by decide +kernel
theorem d_VS_gather_8 : decode b_VS_gather 8 = .ok (.aload_n 1, 1) := by decide +kernel
theorem d_VS_gather_9 : decode b_VS_gather 9 = .ok (.aload_n 0, 1) := by decide +kernel
theorem d_VS_gather_10 : decode b_VS_gather 10 = .ok (.getfield 40, 3) := by decide +kernel
theorem d_VS_gather_13 : decode b_VS_gather 13 = .ok (.aload_n 0, 1) := by decide +kernel
theorem d_VS_gather_14 : decode b_VS_gather 14 = .ok (.getfield 43, 3) := by decide +kernel
theorem d_VS_gather_17 : decode b_VS_gather 17 = .ok (.invokevirtual 215, 3) := by decide +kernel
theorem d_VS_gather_20 : decode b_VS_gather 20 = .ok (.ireturn, 1) := by decide +kernel
theorem d_VS_cutList_0 : decode b_VS_cutList 0 = .ok (.aload_n 0, 1) := by decide +kernel
theorem d_VS_cutList_1 : decode b_VS_cutList 1 = .ok (.aload_n 1, 1) := by decide +kernel
theorem d_VS_cutList_2 : decode b_VS_cutList 2 = .ok (.aload_n 2, 1) := by decide +kernel
theorem d_VS_cutList_3 : decode b_VS_cutList 3 = .ok (.invokevirtual 145, 3) := by decide +kernel
theorem d_VS_cutList_6 : decode b_VS_cutList 6 = .ok (.istore 4, 2) := by decide +kernel
theorem d_VS_cutList_8 : decode b_VS_cutList 8 = .ok (.aload_n 3, 1) := by decide +kernel
theorem d_VS_cutList_9 : decode b_VS_cutList 9 = .ok (.aload_n 0, 1) := by decide +kernel
theorem d_VS_cutList_10 : decode b_VS_cutList 10 = .ok (.getfield 43, 3) := by decide +kernel
theorem d_VS_cutList_13 : decode b_VS_cutList 13 = .ok (.invokevirtual 218, 3) := by decide +kernel
theorem d_VS_cutList_16 : decode b_VS_cutList 16 = .ok (.iload 4, 2) := by decide +kernel
theorem d_VS_cutList_18 : decode b_VS_cutList 18 = .ok (.ireturn, 1) := by decide +kernel
theorem d_VS_numberOf_0 : decode b_VS_numberOf 0 = .ok (.aload_n 0, 1) := by decide +kernel
theorem d_VS_numberOf_1 : decode b_VS_numberOf 1 = .ok (.aload_n 0, 1) := by decide +kernel
theorem d_VS_numberOf_2 : decode b_VS_numberOf 2 = .ok (.getfield 30, 3) := by decide +kernel
theorem d_VS_numberOf_5 : decode b_VS_numberOf 5 = .ok (.aload_n 1, 1) := by decide +kernel
theorem d_VS_numberOf_6 : decode b_VS_numberOf 6 = .ok (.invokevirtual 145, 3) := by decide +kernel
theorem d_VS_numberOf_9 : decode b_VS_numberOf 9 = .ok (.pop, 1) := by decide +kernel
theorem d_VS_numberOf_10 : decode b_VS_numberOf 10 = .ok (.aload_n 0, 1) := by decide +kernel
theorem d_VS_numberOf_11 : decode b_VS_numberOf 11 = .ok (.getfield 43, 3) := by decide +kernel
theorem d_VS_numberOf_14 : decode b_VS_numberOf 14 = .ok (.iconst 0, 1) := by decide +kernel
theorem d_VS_numberOf_15 : decode b_VS_numberOf 15 = .ok (.aload_n 0, 1) := by decide +kernel
theorem d_VS_numberOf_16 : decode b_VS_numberOf 16 = .ok (.getfield 43, 3) := by decide +kernel
theorem d_VS_numberOf_19 : decode b_VS_numberOf 19 = .ok (.getfield 59, 3) := by decide +kernel
theorem d_VS_numberOf_22 : decode b_VS_numberOf 22 = .ok (.invokevirtual 222, 3) := by decide +kernel
theorem d_VS_numberOf_25 : decode b_VS_numberOf 25 = .ok (.ireturn, 1) := by decide +kernel
theorem d_Sh_at_0 : decode b_Sh_at 0 = .ok (.iload_n 1, 1) := by decide +kernel
theorem d_Sh_at_1 : decode b_Sh_at 1 = .ok (.ifCond .lt 20, 3) := by decide +kernel
theorem d_Sh_at_21 : decode b_Sh_at 21 = .ok (.aconst_null, 1) := by decide +kernel
theorem d_Sh_at_22 : decode b_Sh_at 22 = .ok (.areturn, 1) := by decide +kernel
theorem d_Sh_at_4 : decode b_Sh_at 4 = .ok (.iload_n 1, 1) := by decide +kernel
theorem d_Sh_at_5 : decode b_Sh_at 5 = .ok (.aload_n 0, 1) := by decide +kernel
theorem d_Sh_at_6 : decode b_Sh_at 6 = .ok (.getfield 17, 3) := by decide +kernel
theorem d_Sh_at_9 : decode b_Sh_at 9 = .ok (.if_icmp .ge 12, 3) := by decide +kernel
theorem d_VS_placeOfTheOne_0 : decode b_VS_placeOfTheOne 0 = .ok (.aload_n 0, 1) := by decide +kernel
theorem d_VS_placeOfTheOne_1 : decode b_VS_placeOfTheOne 1 = .ok (.getfield 19, 3) := by decide +kernel
theorem d_VS_placeOfTheOne_4 : decode b_VS_placeOfTheOne 4 = .ok (.getfield 133, 3) := by decide +kernel
theorem d_VS_placeOfTheOne_7 : decode b_VS_placeOfTheOne 7 = .ok (.iconst 1, 1) := by decide +kernel
theorem d_VS_placeOfTheOne_8 : decode b_VS_placeOfTheOne 8 = .ok (.isub, 1) := by decide +kernel
theorem d_VS_placeOfTheOne_9 : decode b_VS_placeOfTheOne 9 = .ok (.istore_n 2, 1) := by decide +kernel
theorem d_VS_placeOfTheOne_10 : decode b_VS_placeOfTheOne 10 = .ok (.iload_n 2, 1) := by decide +kernel
theorem d_VS_placeOfTheOne_11 : decode b_VS_placeOfTheOne 11 = .ok (.ifCond .lt 40, 3) := by decide +kernel
theorem d_VS_placeOfTheOne_51 : decode b_VS_placeOfTheOne 51 = .ok (.iconst (-1), 1) := by decide +kernel
theorem d_VS_placeOfTheOne_52 : decode b_VS_placeOfTheOne 52 = .ok (.ireturn, 1) := by decide +kernel
theorem d_VS_placeOfSame_0 : decode b_VS_placeOfSame 0 = .ok (.iconst 0, 1) := by decide +kernel
theorem d_VS_placeOfSame_1 : decode b_VS_placeOfSame 1 = .ok (.istore_n 2, 1) := by decide +kernel
theorem d_VS_placeOfSame_2 : decode b_VS_placeOfSame 2 = .ok (.iload_n 2, 1) := by decide +kernel
theorem d_VS_placeOfSame_3 : decode b_VS_placeOfSame 3 = .ok (.aload_n 0, 1) := by decide +kernel
theorem d_VS_placeOfSame_4 : decode b_VS_placeOfSame 4 = .ok (.getfield 19, 3) := by decide +kernel
theorem d_VS_placeOfSame_7 : decode b_VS_placeOfSame 7 = .ok (.getfield 133, 3) := by decide +kernel
theorem d_VS_placeOfSame_10 : decode b_VS_placeOfSame 10 = .ok (.if_icmp .ge 57, 3) := by decide +kernel
theorem d_VS_placeOfSame_67 : decode b_VS_placeOfSame 67 = .ok (.iconst (-1), 1) := by decide +kernel
theorem d_VS_placeOfSame_68 : decode b_VS_placeOfSame 68 = .ok (.ireturn, 1) := by decide +kernel
theorem d_VS_things_0 : decode b_VS_things 0 = .ok (.aload_n 0, 1) := by decide +kernel
theorem d_VS_things_1 : decode b_VS_things 1 = .ok (.getfield 19, 3) := by decide +kernel
theorem d_VS_things_4 : decode b_VS_things 4 = .ok (.getfield 133, 3) := by decide +kernel
theorem d_VS_things_7 : decode b_VS_things 7 = .ok (.ireturn, 1) := by decide +kernel
theorem d_VS_fault_0 : decode b_VS_fault 0 = .ok (.aload_n 0, 1) := by decide +kernel
theorem d_VS_fault_1 : decode b_VS_fault 1 = .ok (.getfield 33, 3) := by decide +kernel
theorem d_VS_fault_4 : decode b_VS_fault 4 = .ok (.ireturn, 1) := by decide +kernel
theorem d_VS_purge_0 : decode b_VS_purge 0 = .ok (.iconst 0, 1) := by decide +kernel
theorem d_VS_purge_1 : decode b_VS_purge 1 = .ok (.istore_n 2, 1) := by decide +kernel
theorem d_VS_purge_2 : decode b_VS_purge 2 = .ok (.aload_n 0, 1) := by decide +kernel
theorem d_VS_purge_3 : decode b_VS_purge 3 = .ok (.getfield 19, 3) := by decide +kernel
theorem d_VS_purge_6 : decode b_VS_purge 6 = .ok (.getfield 133, 3) := by decide +kernel
theorem d_VS_purge_9 : decode b_VS_purge 9 = .ok (.iconst 1, 1) := by decide +kernel
theorem d_VS_purge_10 : decode b_VS_purge 10 = .ok (.isub, 1) := by decide +kernel
theorem d_VS_purge_11 : decode b_VS_purge 11 = .ok (.istore_n 3, 1) := by decide +kernel
theorem d_VS_purge_12 : decode b_VS_purge 12 = .ok (.iload_n 3, 1) := by decide +kernel
theorem d_VS_purge_13 : decode b_VS_purge 13 = .ok (.ifCond .lt 44, 3) := by decide +kernel
theorem d_VS_purge_57 : decode b_VS_purge 57 = .ok (.iload_n 2, 1) := by decide +kernel
theorem d_VS_purge_58 : decode b_VS_purge 58 = .ok (.ireturn, 1) := by decide +kernel
theorem d_Sh_drop_0 : decode b_Sh_drop 0 = .ok (.iload_n 1, 1) := by decide +kernel
theorem d_Sh_drop_1 : decode b_Sh_drop 1 = .ok (.ifCond .lt 26, 3) := by decide +kernel
theorem d_Sh_drop_27 : decode b_Sh_drop 27 = .ok (.return_, 1) := by decide +kernel
theorem d_Te_read_0 : decode b_Te_read 0 = .ok (.aload_n 0, 1) := by decide +kernel
theorem d_Te_read_1 : decode b_Te_read 1 = .ok (.getfield 12, 3) := by decide +kernel
theorem d_Te_read_4 : decode b_Te_read 4 = .ok (.aload_n 1, 1) := by decide +kernel
theorem d_Te_read_5 : decode b_Te_read 5 = .ok (.invokevirtual 32, 3) := by decide +kernel
theorem d_Te_read_8 : decode b_Te_read 8 = .ok (.aload_n 0, 1) := by decide +kernel
theorem d_Te_read_9 : decode b_Te_read 9 = .ok (.iconst 0, 1) := by decide +kernel
theorem d_Te_read_10 : decode b_Te_read 10 = .ok (.putfield 28, 3) := by decide +kernel
theorem d_Te_read_13 : decode b_Te_read 13 = .ok (.iconst 0, 1) := by decide +kernel
theorem d_Te_read_14 : decode b_Te_read 14 = .ok (.istore_n 2, 1) := by decide +kernel
theorem d_Te_read_15 : decode b_Te_read 15 = .ok (.iconst 0, 1) := by decide +kernel
theorem d_Te_read_16 : decode b_Te_read 16 = .ok (.istore_n 3, 1) := by decide +kernel
theorem d_Te_read_17 : decode b_Te_read 17 = .ok (.iload_n 3, 1) := by decide +kernel
theorem d_Te_read_18 : decode b_Te_read 18 = .ok (.aload_n 0, 1) := by decide +kernel
theorem d_Te_read_19 : decode b_Te_read 19 = .ok (.getfield 12, 3) := by decide +kernel
theorem d_Te_read_22 : decode b_Te_read 22 = .ok (.getfield 42, 3) := by decide +kernel
theorem d_Te_read_25 : decode b_Te_read 25 = .ok (.if_icmp .ge 37, 3) := by decide +kernel
theorem d_Te_read_62 : decode b_Te_read 62 = .ok (.iload_n 2, 1) := by decide +kernel
theorem d_Te_read_63 : decode b_Te_read 63 = .ok (.aload_n 0, 1) := by decide +kernel
theorem d_Te_read_64 : decode b_Te_read 64 = .ok (.getfield 12, 3) := by decide +kernel
theorem d_Te_read_67 : decode b_Te_read 67 = .ok (.getfield 42, 3) := by decide +kernel
theorem d_Te_read_70 : decode b_Te_read 70 = .ok (.if_icmp .ge 7, 3) := by decide +kernel
theorem d_Te_read_77 : decode b_Te_read 77 = .ok (.iconst (-1), 1) := by decide +kernel
theorem d_Te_read_78 : decode b_Te_read 78 = .ok (.ireturn, 1) := by decide +kernel
theorem d_VS_readTape_0 : decode b_VS_readTape 0 = .ok (.aload_n 0, 1) := by decide +kernel
theorem d_VS_readTape_1 : decode b_VS_readTape 1 = .ok (.aload_n 0, 1) := by decide +kernel
theorem d_VS_readTape_2 : decode b_VS_readTape 2 = .ok (.getfield 30, 3) := by decide +kernel
theorem d_VS_readTape_5 : decode b_VS_readTape 5 = .ok (.aload_n 0, 1) := by decide +kernel
theorem d_VS_readTape_6 : decode b_VS_readTape 6 = .ok (.getfield 12, 3) := by decide +kernel
theorem d_VS_readTape_9 : decode b_VS_readTape 9 = .ok (.invokevirtual 201, 3) := by decide +kernel
theorem d_VS_readTape_12 : decode b_VS_readTape 12 = .ok (.putfield 33, 3) := by decide +kernel
theorem d_VS_readTape_15 : decode b_VS_readTape 15 = .ok (.aload_n 0, 1) := by decide +kernel
theorem d_VS_readTape_16 : decode b_VS_readTape 16 = .ok (.getfield 12, 3) := by decide +kernel
theorem d_VS_readTape_19 : decode b_VS_readTape 19 = .ok (.invokevirtual 205, 3) := by decide +kernel
theorem d_VS_readTape_22 : decode b_VS_readTape 22 = .ok (.aload_n 0, 1) := by decide +kernel
theorem d_VS_readTape_23 : decode b_VS_readTape 23 = .ok (.getfield 33, 3) := by decide +kernel
theorem d_VS_readTape_26 : decode b_VS_readTape 26 = .ok (.iconst (-1), 1) := by decide +kernel
theorem d_VS_readTape_27 : decode b_VS_readTape 27 = .ok (.if_icmp .eq 13, 3) := by decide +kernel
theorem d_VS_readTape_40 : decode b_VS_readTape 40 = .ok (.iload_n 1, 1) := by decide +kernel
theorem d_VS_readTape_41 : decode b_VS_readTape 41 = .ok (.ifCond .lt 9, 3) := by decide +kernel
theorem d_VS_readTape_50 : decode b_VS_readTape 50 = .ok (.new 163, 3) := by decide +kernel
theorem d_VS_readTape_53 : decode b_VS_readTape 53 = .ok (.dup, 1) := by decide +kernel
theorem d_VS_readTape_54 : decode b_VS_readTape 54 = .ok (.ldc 210, 2) := by decide +kernel
theorem d_VS_readTape_56 : decode b_VS_readTape 56 = .ok (.invokespecial 167, 3) := by decide +kernel
theorem d_VS_readTape_59 : decode b_VS_readTape 59 = .ok (.athrow, 1) := by decide +kernel
theorem d_VS_readTape_44 : decode b_VS_readTape 44 = .ok (.iload_n 1, 1) := by decide +kernel
theorem d_VS_readTape_45 : decode b_VS_readTape 45 = .ok (.bipush 16, 2) := by decide +kernel
theorem d_VS_readTape_47 : decode b_VS_readTape 47 = .ok (.if_icmp .lt 13, 3) := by decide +kernel
theorem d_VS_readTape_60 : decode b_VS_readTape 60 = .ok (.return_, 1) := by decide +kernel
theorem d_VS_ask_0 : decode b_VS_ask 0 = .ok (.aload_n 0, 1) := by decide +kernel
theorem d_VS_ask_1 : decode b_VS_ask 1 = .ok (.iload_n 1, 1) := by decide +kernel
theorem d_VS_ask_2 : decode b_VS_ask 2 = .ok (.invokevirtual 74, 3) := by decide +kernel
theorem d_VS_ask_5 : decode b_VS_ask 5 = .ok (.aload_n 0, 1) := by decide +kernel
theorem d_VS_ask_6 : decode b_VS_ask 6 = .ok (.getfield 26, 3) := by decide +kernel
theorem d_VS_ask_9 : decode b_VS_ask 9 = .ok (.astore_n 2, 1) := by decide +kernel
theorem d_VS_ask_10 : decode b_VS_ask 10 = .ok (.aload_n 0, 1) := by decide +kernel
theorem d_VS_ask_11 : decode b_VS_ask 11 = .ok (.aload_n 0, 1) := by decide +kernel
theorem d_VS_ask_12 : decode b_VS_ask 12 = .ok (.getfield 30, 3) := by decide +kernel
theorem d_VS_ask_15 : decode b_VS_ask 15 = .ok (.putfield 26, 3) := by decide +kernel
theorem d_VS_ask_18 : decode b_VS_ask 18 = .ok (.aload_n 0, 1) := by decide +kernel
theorem d_VS_ask_19 : decode b_VS_ask 19 = .ok (.aload_n 2, 1) := by decide +kernel
theorem d_VS_ask_20 : decode b_VS_ask 20 = .ok (.putfield 30, 3) := by decide +kernel
theorem d_VS_ask_23 : decode b_VS_ask 23 = .ok (.aload_n 0, 1) := by decide +kernel
theorem d_VS_ask_24 : decode b_VS_ask 24 = .ok (.aload_n 0, 1) := by decide +kernel
theorem d_VS_ask_25 : decode b_VS_ask 25 = .ok (.getfield 26, 3) := by decide +kernel
theorem d_VS_ask_28 : decode b_VS_ask 28 = .ok (.ldc 78, 2) := by decide +kernel
theorem d_VS_ask_30 : decode b_VS_ask 30 = .ok (.aload_n 0, 1) := by decide +kernel
theorem d_VS_ask_31 : decode b_VS_ask 31 = .ok (.getfield 49, 3) := by decide +kernel
theorem d_VS_ask_34 : decode b_VS_ask 34 = .ok (.invokevirtual 80, 3) := by decide +kernel
theorem d_VS_ask_37 : decode b_VS_ask 37 = .ok (.pop, 1) := by decide +kernel
theorem d_VS_ask_38 : decode b_VS_ask 38 = .ok (.aload_n 0, 1) := by decide +kernel
theorem d_VS_ask_39 : decode b_VS_ask 39 = .ok (.getfield 19, 3) := by decide +kernel
theorem d_VS_ask_42 : decode b_VS_ask 42 = .ok (.aload_n 0, 1) := by decide +kernel
theorem d_VS_ask_43 : decode b_VS_ask 43 = .ok (.iload_n 1, 1) := by decide +kernel
theorem d_VS_ask_44 : decode b_VS_ask 44 = .ok (.invokevirtual 84, 3) := by decide +kernel
theorem d_VS_ask_47 : decode b_VS_ask 47 = .ok (.invokevirtual 88, 3) := by decide +kernel
theorem d_VS_ask_50 : decode b_VS_ask 50 = .ok (.astore_n 3, 1) := by decide +kernel
theorem d_VS_ask_51 : decode b_VS_ask 51 = .ok (.aload_n 3, 1) := by decide +kernel
theorem d_VS_ask_52 : decode b_VS_ask 52 = .ok (.ifnonnull 7, 3) := by decide +kernel
theorem d_VS_ask_55 : decode b_VS_ask 55 = .ok (.iconst 0, 1) := by decide +kernel
theorem d_VS_ask_56 : decode b_VS_ask 56 = .ok (.goto 8, 3) := by decide +kernel
theorem d_VS_ask_64 : decode b_VS_ask 64 = .ok (.istore 4, 2) := by decide +kernel
theorem d_VS_ask_66 : decode b_VS_ask 66 = .ok (.iload 4, 2) := by decide +kernel
theorem d_VS_ask_68 : decode b_VS_ask 68 = .ok (.iconst 1, 1) := by decide +kernel
theorem d_VS_ask_69 : decode b_VS_ask 69 = .ok (.if_icmp .eq 9, 3) := by decide +kernel
theorem d_VS_ask_72 : decode b_VS_ask 72 = .ok (.iload 4, 2) := by decide +kernel
theorem d_VS_ask_74 : decode b_VS_ask 74 = .ok (.iconst 2, 1) := by decide +kernel
theorem d_VS_ask_75 : decode b_VS_ask 75 = .ok (.if_icmp .ne 14, 3) := by decide +kernel
theorem d_VS_ask_89 : decode b_VS_ask 89 = .ok (.aload_n 0, 1) := by decide +kernel
theorem d_VS_ask_90 : decode b_VS_ask 90 = .ok (.getfield 49, 3) := by decide +kernel
theorem d_VS_ask_93 : decode b_VS_ask 93 = .ok (.ldc 100, 2) := by decide +kernel
theorem d_VS_ask_95 : decode b_VS_ask 95 = .ok (.invokevirtual 102, 3) := by decide +kernel
theorem d_VS_ask_98 : decode b_VS_ask 98 = .ok (.ifCond .eq 7, 3) := by decide +kernel
theorem d_VS_ask_105 : decode b_VS_ask 105 = .ok (.iload 4, 2) := by decide +kernel
theorem d_VS_ask_107 : decode b_VS_ask 107 = .ok (.ireturn, 1) := by decide +kernel
theorem d_VS_again_0 : decode b_VS_again 0 = .ok (.aload_n 0, 1) := by decide +kernel
theorem d_VS_again_1 : decode b_VS_again 1 = .ok (.iload_n 1, 1) := by decide +kernel
theorem d_VS_again_2 : decode b_VS_again 2 = .ok (.invokevirtual 74, 3) := by decide +kernel
theorem d_VS_again_5 : decode b_VS_again 5 = .ok (.aload_n 0, 1) := by decide +kernel
theorem d_VS_again_6 : decode b_VS_again 6 = .ok (.iload_n 1, 1) := by decide +kernel
theorem d_VS_again_7 : decode b_VS_again 7 = .ok (.invokevirtual 84, 3) := by decide +kernel
theorem d_VS_again_10 : decode b_VS_again 10 = .ok (.istore_n 2, 1) := by decide +kernel
theorem d_VS_again_11 : decode b_VS_again 11 = .ok (.aload_n 0, 1) := by decide +kernel
theorem d_VS_again_12 : decode b_VS_again 12 = .ok (.getfield 19, 3) := by decide +kernel
theorem d_VS_again_15 : decode b_VS_again 15 = .ok (.iload_n 2, 1) := by decide +kernel
theorem d_VS_again_16 : decode b_VS_again 16 = .ok (.invokevirtual 88, 3) := by decide +kernel
theorem d_VS_again_19 : decode b_VS_again 19 = .ok (.astore_n 3, 1) := by decide +kernel
theorem d_VS_again_20 : decode b_VS_again 20 = .ok (.aload_n 3, 1) := by decide +kernel
theorem d_VS_again_21 : decode b_VS_again 21 = .ok (.ifnonnull 5, 3) := by decide +kernel
theorem d_VS_again_24 : decode b_VS_again 24 = .ok (.iconst 0, 1) := by decide +kernel
theorem d_VS_again_25 : decode b_VS_again 25 = .ok (.ireturn, 1) := by decide +kernel
theorem d_VS_pass_0 : decode b_VS_pass 0 = .ok (.iload_n 1, 1) := by decide +kernel
theorem d_VS_pass_1 : decode b_VS_pass 1 = .ok (.iconst 1, 1) := by decide +kernel
theorem d_VS_pass_2 : decode b_VS_pass 2 = .ok (.if_icmp .lt 20, 3) := by decide +kernel
theorem d_VS_pass_22 : decode b_VS_pass 22 = .ok (.new 163, 3) := by decide +kernel
theorem d_VS_pass_25 : decode b_VS_pass 25 = .ok (.dup, 1) := by decide +kernel
theorem d_VS_pass_26 : decode b_VS_pass 26 = .ok (.ldc 165, 2) := by decide +kernel
theorem d_VS_pass_28 : decode b_VS_pass 28 = .ok (.invokespecial 167, 3) := by decide +kernel
theorem d_VS_pass_31 : decode b_VS_pass 31 = .ok (.athrow, 1) := by decide +kernel
theorem d_VS_pass_5 : decode b_VS_pass 5 = .ok (.iload_n 1, 1) := by decide +kernel
theorem d_VS_pass_6 : decode b_VS_pass 6 = .ok (.ldc 161, 2) := by decide +kernel
theorem d_VS_pass_8 : decode b_VS_pass 8 = .ok (.if_icmp .gt 14, 3) := by decide +kernel
theorem d_VS_pass_11 : decode b_VS_pass 11 = .ok (.aload_n 0, 1) := by decide +kernel
theorem d_VS_pass_12 : decode b_VS_pass 12 = .ok (.getfield 37, 3) := by decide +kernel
theorem d_VS_pass_15 : decode b_VS_pass 15 = .ok (.iload_n 1, 1) := by decide +kernel
theorem d_VS_pass_16 : decode b_VS_pass 16 = .ok (.iadd, 1) := by decide +kernel
theorem d_VS_pass_17 : decode b_VS_pass 17 = .ok (.ldc 162, 2) := by decide +kernel
theorem d_VS_pass_19 : decode b_VS_pass 19 = .ok (.if_icmp .le 13, 3) := by decide +kernel
theorem d_VS_pass_32 : decode b_VS_pass 32 = .ok (.aload_n 0, 1) := by decide +kernel
theorem d_VS_pass_33 : decode b_VS_pass 33 = .ok (.dup, 1) := by decide +kernel
theorem d_VS_pass_34 : decode b_VS_pass 34 = .ok (.getfield 37, 3) := by decide +kernel
theorem d_VS_pass_37 : decode b_VS_pass 37 = .ok (.iload_n 1, 1) := by decide +kernel
theorem d_VS_pass_38 : decode b_VS_pass 38 = .ok (.iadd, 1) := by decide +kernel
theorem d_VS_pass_39 : decode b_VS_pass 39 = .ok (.putfield 37, 3) := by decide +kernel
theorem d_VS_pass_42 : decode b_VS_pass 42 = .ok (.aload_n 0, 1) := by decide +kernel
theorem d_VS_pass_43 : decode b_VS_pass 43 = .ok (.getfield 37, 3) := by decide +kernel
theorem d_VS_pass_46 : decode b_VS_pass 46 = .ok (.ireturn, 1) := by decide +kernel
theorem d_Te_copy_0 : decode b_Te_copy 0 = .ok (.aload_n 0, 1) := by decide +kernel
theorem d_Te_copy_1 : decode b_Te_copy 1 = .ok (.getfield 12, 3) := by decide +kernel
theorem d_Te_copy_4 : decode b_Te_copy 4 = .ok (.aload_n 1, 1) := by decide +kernel
theorem d_Te_copy_5 : decode b_Te_copy 5 = .ok (.getfield 12, 3) := by decide +kernel
theorem d_Te_copy_8 : decode b_Te_copy 8 = .ok (.invokevirtual 32, 3) := by decide +kernel
theorem d_Te_copy_11 : decode b_Te_copy 11 = .ok (.aload_n 1, 1) := by decide +kernel
theorem d_Te_copy_12 : decode b_Te_copy 12 = .ok (.getfield 18, 3) := by decide +kernel
theorem d_Te_copy_15 : decode b_Te_copy 15 = .ok (.iconst 0, 1) := by decide +kernel
theorem d_Te_copy_16 : decode b_Te_copy 16 = .ok (.aload_n 0, 1) := by decide +kernel
theorem d_Te_copy_17 : decode b_Te_copy 17 = .ok (.getfield 18, 3) := by decide +kernel
theorem d_Te_copy_20 : decode b_Te_copy 20 = .ok (.iconst 0, 1) := by decide +kernel
theorem d_Te_copy_21 : decode b_Te_copy 21 = .ok (.aload_n 1, 1) := by decide +kernel
theorem d_Te_copy_22 : decode b_Te_copy 22 = .ok (.getfield 28, 3) := by decide +kernel
theorem d_Te_copy_25 : decode b_Te_copy 25 = .ok (.invokestatic 36, 3) := by decide +kernel
theorem d_Te_copy_28 : decode b_Te_copy 28 = .ok (.aload_n 1, 1) := by decide +kernel
theorem d_Te_copy_29 : decode b_Te_copy 29 = .ok (.getfield 22, 3) := by decide +kernel
theorem d_Te_copy_32 : decode b_Te_copy 32 = .ok (.iconst 0, 1) := by decide +kernel
theorem d_Te_copy_33 : decode b_Te_copy 33 = .ok (.aload_n 0, 1) := by decide +kernel
theorem d_Te_copy_34 : decode b_Te_copy 34 = .ok (.getfield 22, 3) := by decide +kernel
theorem d_Te_copy_37 : decode b_Te_copy 37 = .ok (.iconst 0, 1) := by decide +kernel
theorem d_Te_copy_38 : decode b_Te_copy 38 = .ok (.aload_n 1, 1) := by decide +kernel
theorem d_Te_copy_39 : decode b_Te_copy 39 = .ok (.getfield 28, 3) := by decide +kernel
theorem d_Te_copy_42 : decode b_Te_copy 42 = .ok (.invokestatic 36, 3) := by decide +kernel
theorem d_Te_copy_45 : decode b_Te_copy 45 = .ok (.aload_n 1, 1) := by decide +kernel
theorem d_Te_copy_46 : decode b_Te_copy 46 = .ok (.getfield 25, 3) := by decide +kernel
theorem d_Te_copy_49 : decode b_Te_copy 49 = .ok (.iconst 0, 1) := by decide +kernel
theorem d_Te_copy_50 : decode b_Te_copy 50 = .ok (.aload_n 0, 1) := by decide +kernel
theorem d_Te_copy_51 : decode b_Te_copy 51 = .ok (.getfield 25, 3) := by decide +kernel
theorem d_Te_copy_54 : decode b_Te_copy 54 = .ok (.iconst 0, 1) := by decide +kernel
theorem d_Te_copy_55 : decode b_Te_copy 55 = .ok (.aload_n 1, 1) := by decide +kernel
theorem d_Te_copy_56 : decode b_Te_copy 56 = .ok (.getfield 28, 3) := by decide +kernel
theorem d_Te_copy_59 : decode b_Te_copy 59 = .ok (.invokestatic 36, 3) := by decide +kernel
theorem d_Te_copy_62 : decode b_Te_copy 62 = .ok (.aload_n 0, 1) := by decide +kernel
theorem d_Te_copy_63 : decode b_Te_copy 63 = .ok (.aload_n 1, 1) := by decide +kernel
theorem d_Te_copy_64 : decode b_Te_copy 64 = .ok (.getfield 28, 3) := by decide +kernel
theorem d_Te_copy_67 : decode b_Te_copy 67 = .ok (.putfield 28, 3) := by decide +kernel
theorem d_Te_copy_70 : decode b_Te_copy 70 = .ok (.return_, 1) := by decide +kernel
theorem d_Ro_makeSmall_0 : decode b_Ro_makeSmall 0 = .ok (.iconst 0, 1) := by decide +kernel
theorem d_Ro_makeSmall_1 : decode b_Ro_makeSmall 1 = .ok (.iload_n 1, 1) := by decide +kernel
theorem d_Ro_makeSmall_2 : decode b_Ro_makeSmall 2 = .ok (.invokestatic 45, 3) := by decide +kernel
theorem d_Ro_makeSmall_5 : decode b_Ro_makeSmall 5 = .ok (.istore_n 3, 1) := by decide +kernel
theorem d_Ro_makeSmall_6 : decode b_Ro_makeSmall 6 = .ok (.iload_n 3, 1) := by decide +kernel
theorem d_Ro_makeSmall_7 : decode b_Ro_makeSmall 7 = .ok (.iload_n 2, 1) := by decide +kernel
theorem d_Ro_makeSmall_8 : decode b_Ro_makeSmall 8 = .ok (.if_icmp .ge 32, 3) := by decide +kernel
theorem d_Ro_makeSmall_40 : decode b_Ro_makeSmall 40 = .ok (.return_, 1) := by decide +kernel
theorem d_It_makeSmall_0 : decode b_It_makeSmall 0 = .ok (.aload_n 0, 1) := by decide +kernel
theorem d_It_makeSmall_1 : decode b_It_makeSmall 1 = .ok (.getfield 12, 3) := by decide +kernel
theorem d_It_makeSmall_4 : decode b_It_makeSmall 4 = .ok (.iconst 0, 1) := by decide +kernel
theorem d_It_makeSmall_5 : decode b_It_makeSmall 5 = .ok (.aload_n 0, 1) := by decide +kernel
theorem d_It_makeSmall_6 : decode b_It_makeSmall 6 = .ok (.getfield 12, 3) := by decide +kernel
theorem d_It_makeSmall_9 : decode b_It_makeSmall 9 = .ok (.getfield 29, 3) := by decide +kernel
theorem d_It_makeSmall_12 : decode b_It_makeSmall 12 = .ok (.invokevirtual 61, 3) := by decide +kernel
theorem d_It_makeSmall_15 : decode b_It_makeSmall 15 = .ok (.return_, 1) := by decide +kernel
theorem d_Sh_spare_0 : decode b_Sh_spare 0 = .ok (.aload_n 0, 1) := by decide +kernel
theorem d_Sh_spare_1 : decode b_Sh_spare 1 = .ok (.getfield 11, 3) := by decide +kernel
theorem d_Sh_spare_4 : decode b_Sh_spare 4 = .ok (.bipush 24, 2) := by decide +kernel
theorem d_Sh_spare_6 : decode b_Sh_spare 6 = .ok (.aaload, 1) := by decide +kernel
theorem d_Sh_spare_7 : decode b_Sh_spare 7 = .ok (.astore_n 1, 1) := by decide +kernel
theorem d_Sh_spare_8 : decode b_Sh_spare 8 = .ok (.aload_n 1, 1) := by decide +kernel
theorem d_Sh_spare_9 : decode b_Sh_spare 9 = .ok (.ifnonnull 19, 3) := by decide +kernel
theorem d_Sh_spare_12 : decode b_Sh_spare 12 = .ok (.new 9, 3) := by decide +kernel
theorem d_Sh_spare_15 : decode b_Sh_spare 15 = .ok (.dup, 1) := by decide +kernel
theorem d_Sh_spare_16 : decode b_Sh_spare 16 = .ok (.invokespecial 24, 3) := by decide +kernel
theorem d_Sh_spare_19 : decode b_Sh_spare 19 = .ok (.astore_n 1, 1) := by decide +kernel
theorem d_Sh_spare_20 : decode b_Sh_spare 20 = .ok (.aload_n 0, 1) := by decide +kernel
theorem d_Sh_spare_21 : decode b_Sh_spare 21 = .ok (.getfield 11, 3) := by decide +kernel
theorem d_Sh_spare_24 : decode b_Sh_spare 24 = .ok (.bipush 24, 2) := by decide +kernel
theorem d_Sh_spare_26 : decode b_Sh_spare 26 = .ok (.aload_n 1, 1) := by decide +kernel
theorem d_Sh_spare_27 : decode b_Sh_spare 27 = .ok (.aastore, 1) := by decide +kernel
theorem d_Sh_spare_28 : decode b_Sh_spare 28 = .ok (.aload_n 1, 1) := by decide +kernel
theorem d_Sh_spare_29 : decode b_Sh_spare 29 = .ok (.areturn, 1) := by decide +kernel
theorem d_Th_obey_0 : decode b_Th_obey 0 = .ok (.aload_n 0, 1) := by decide +kernel
theorem d_Th_obey_1 : decode b_Th_obey 1 = .ok (.aload_n 1, 1) := by decide +kernel
theorem d_Th_obey_2 : decode b_Th_obey 2 = .ok (.ldc 64, 2) := by decide +kernel
theorem d_Th_obey_4 : decode b_Th_obey 4 = .ok (.invokevirtual 66, 3) := by decide +kernel
theorem d_Th_obey_7 : decode b_Th_obey 7 = .ok (.putfield 36, 3) := by decide +kernel
theorem d_Th_obey_10 : decode b_Th_obey 10 = .ok (.aload_n 0, 1) := by decide +kernel
theorem d_Th_obey_11 : decode b_Th_obey 11 = .ok (.aload_n 1, 1) := by decide +kernel
theorem d_Th_obey_12 : decode b_Th_obey 12 = .ok (.ldc 70, 2) := by decide +kernel
theorem d_Th_obey_14 : decode b_Th_obey 14 = .ok (.invokevirtual 66, 3) := by decide +kernel
theorem d_Th_obey_17 : decode b_Th_obey 17 = .ok (.putfield 39, 3) := by decide +kernel
theorem d_Th_obey_20 : decode b_Th_obey 20 = .ok (.aload_n 0, 1) := by decide +kernel
theorem d_Th_obey_21 : decode b_Th_obey 21 = .ok (.aload_n 1, 1) := by decide +kernel
theorem d_Th_obey_22 : decode b_Th_obey 22 = .ok (.ldc 72, 2) := by decide +kernel
theorem d_Th_obey_24 : decode b_Th_obey 24 = .ok (.invokevirtual 74, 3) := by decide +kernel
theorem d_Th_obey_27 : decode b_Th_obey 27 = .ok (.ifCond .ne 12, 3) := by decide +kernel
theorem d_Th_obey_30 : decode b_Th_obey 30 = .ok (.aload_n 1, 1) := by decide +kernel
theorem d_Th_obey_31 : decode b_Th_obey 31 = .ok (.ldc 78, 2) := by decide +kernel
theorem d_Th_obey_33 : decode b_Th_obey 33 = .ok (.invokevirtual 74, 3) := by decide +kernel
theorem d_Th_obey_36 : decode b_Th_obey 36 = .ok (.ifCond .eq 7, 3) := by decide +kernel
theorem d_Th_obey_43 : decode b_Th_obey 43 = .ok (.iconst 0, 1) := by decide +kernel
theorem d_Th_obey_44 : decode b_Th_obey 44 = .ok (.putfield 42, 3) := by decide +kernel
theorem d_Th_obey_47 : decode b_Th_obey 47 = .ok (.aload_n 0, 1) := by decide +kernel
theorem d_Th_obey_48 : decode b_Th_obey 48 = .ok (.aload_n 1, 1) := by decide +kernel
theorem d_Th_obey_49 : decode b_Th_obey 49 = .ok (.ldc 80, 2) := by decide +kernel
theorem d_Th_obey_51 : decode b_Th_obey 51 = .ok (.invokevirtual 74, 3) := by decide +kernel
theorem d_Th_obey_54 : decode b_Th_obey 54 = .ok (.putfield 46, 3) := by decide +kernel
theorem d_Th_obey_57 : decode b_Th_obey 57 = .ok (.aload_n 0, 1) := by decide +kernel
theorem d_Th_obey_58 : decode b_Th_obey 58 = .ok (.aload_n 0, 1) := by decide +kernel
theorem d_Th_obey_59 : decode b_Th_obey 59 = .ok (.getfield 46, 3) := by decide +kernel
theorem d_Th_obey_62 : decode b_Th_obey 62 = .ok (.ifCond .ne 30, 3) := by decide +kernel
theorem d_Th_obey_65 : decode b_Th_obey 65 = .ok (.aload_n 0, 1) := by decide +kernel
theorem d_Th_obey_66 : decode b_Th_obey 66 = .ok (.getfield 36, 3) := by decide +kernel
theorem d_Th_obey_69 : decode b_Th_obey 69 = .ok (.bipush (-2), 2) := by decide +kernel
theorem d_Th_obey_71 : decode b_Th_obey 71 = .ok (.if_icmp .ne 21, 3) := by decide +kernel
theorem d_Th_obey_74 : decode b_Th_obey 74 = .ok (.aload_n 1, 1) := by decide +kernel
theorem d_Th_obey_75 : decode b_Th_obey 75 = .ok (.ldc 82, 2) := by decide +kernel
theorem d_Th_obey_77 : decode b_Th_obey 77 = .ok (.invokevirtual 74, 3) := by decide +kernel
theorem d_Th_obey_80 : decode b_Th_obey 80 = .ok (.ifCond .ne 12, 3) := by decide +kernel
theorem d_Th_obey_83 : decode b_Th_obey 83 = .ok (.aload_n 1, 1) := by decide +kernel
theorem d_Th_obey_84 : decode b_Th_obey 84 = .ok (.ldc 84, 2) := by decide +kernel
theorem d_Th_obey_86 : decode b_Th_obey 86 = .ok (.invokevirtual 74, 3) := by decide +kernel
theorem d_Th_obey_89 : decode b_Th_obey 89 = .ok (.ifCond .eq 7, 3) := by decide +kernel
theorem d_Th_obey_96 : decode b_Th_obey 96 = .ok (.iconst 0, 1) := by decide +kernel
theorem d_Th_obey_97 : decode b_Th_obey 97 = .ok (.putfield 49, 3) := by decide +kernel
theorem d_Th_obey_100 : decode b_Th_obey 100 = .ok (.return_, 1) := by decide +kernel
theorem d_VS_describe_0 : decode b_VS_describe 0 = .ok (.aload_n 1, 1) := by decide +kernel
theorem d_VS_describe_1 : decode b_VS_describe 1 = .ok (.iload_n 2, 1) := by decide +kernel
theorem d_VS_describe_2 : decode b_VS_describe 2 = .ok (.putfield 158, 3) := by decide +kernel
theorem d_VS_describe_5 : decode b_VS_describe 5 = .ok (.aload_n 1, 1) := by decide +kernel
theorem d_VS_describe_6 : decode b_VS_describe 6 = .ok (.getfield 226, 3) := by decide +kernel
theorem d_VS_describe_9 : decode b_VS_describe 9 = .ok (.aload_n 0, 1) := by decide +kernel
theorem d_VS_describe_10 : decode b_VS_describe 10 = .ok (.getfield 26, 3) := by decide +kernel
theorem d_VS_describe_13 : decode b_VS_describe 13 = .ok (.invokevirtual 227, 3) := by decide +kernel
theorem d_VS_describe_16 : decode b_VS_describe 16 = .ok (.aload_n 0, 1) := by decide +kernel
theorem d_VS_describe_17 : decode b_VS_describe 17 = .ok (.aload_n 0, 1) := by decide +kernel
theorem d_VS_describe_18 : decode b_VS_describe 18 = .ok (.getfield 30, 3) := by decide +kernel
theorem d_VS_describe_21 : decode b_VS_describe 21 = .ok (.ldc 143, 2) := by decide +kernel
theorem d_VS_describe_23 : decode b_VS_describe 23 = .ok (.invokevirtual 145, 3) := by decide +kernel
theorem d_VS_describe_26 : decode b_VS_describe 26 = .ok (.pop, 1) := by decide +kernel
theorem d_VS_describe_27 : decode b_VS_describe 27 = .ok (.aload_n 1, 1) := by decide +kernel
theorem d_VS_describe_28 : decode b_VS_describe 28 = .ok (.getfield 149, 3) := by decide +kernel
theorem d_VS_describe_31 : decode b_VS_describe 31 = .ok (.aload_n 0, 1) := by decide +kernel
theorem d_VS_describe_32 : decode b_VS_describe 32 = .ok (.getfield 43, 3) := by decide +kernel
theorem d_VS_describe_35 : decode b_VS_describe 35 = .ok (.invokevirtual 231, 3) := by decide +kernel
theorem d_VS_describe_38 : decode b_VS_describe 38 = .ok (.aload_n 0, 1) := by decide +kernel
theorem d_VS_describe_39 : decode b_VS_describe 39 = .ok (.aload_n 0, 1) := by decide +kernel
theorem d_VS_describe_40 : decode b_VS_describe 40 = .ok (.getfield 30, 3) := by decide +kernel
theorem d_VS_describe_43 : decode b_VS_describe 43 = .ok (.ldc 233, 2) := by decide +kernel
theorem d_VS_describe_45 : decode b_VS_describe 45 = .ok (.aload_n 1, 1) := by decide +kernel
theorem d_VS_describe_46 : decode b_VS_describe 46 = .ok (.getfield 184, 3) := by decide +kernel
theorem d_VS_describe_49 : decode b_VS_describe 49 = .ok (.invokevirtual 80, 3) := by decide +kernel
theorem d_VS_describe_52 : decode b_VS_describe 52 = .ok (.pop, 1) := by decide +kernel
theorem d_VS_describe_53 : decode b_VS_describe 53 = .ok (.aload_n 1, 1) := by decide +kernel
theorem d_VS_describe_54 : decode b_VS_describe 54 = .ok (.getfield 184, 3) := by decide +kernel
theorem d_VS_describe_57 : decode b_VS_describe 57 = .ok (.invokevirtual 234, 3) := by decide +kernel
theorem d_VS_describe_60 : decode b_VS_describe 60 = .ok (.return_, 1) := by decide +kernel
theorem d_VS_startLife_0 : decode b_VS_startLife 0 = .ok (.aload_n 0, 1) := by decide +kernel
theorem d_VS_startLife_1 : decode b_VS_startLife 1 = .ok (.ldc 237, 2) := by decide +kernel
theorem d_VS_startLife_3 : decode b_VS_startLife 3 = .ok (.invokevirtual 239, 3) := by decide +kernel
theorem d_VS_startLife_6 : decode b_VS_startLife 6 = .ok (.istore_n 2, 1) := by decide +kernel
theorem d_VS_startLife_7 : decode b_VS_startLife 7 = .ok (.aload_n 0, 1) := by decide +kernel
theorem d_VS_startLife_8 : decode b_VS_startLife 8 = .ok (.ldc 243, 2) := by decide +kernel
theorem d_VS_startLife_10 : decode b_VS_startLife 10 = .ok (.invokevirtual 239, 3) := by decide +kernel
theorem d_VS_startLife_13 : decode b_VS_startLife 13 = .ok (.istore_n 3, 1) := by decide +kernel
theorem d_VS_startLife_14 : decode b_VS_startLife 14 = .ok (.aload_n 1, 1) := by decide +kernel
theorem d_VS_startLife_15 : decode b_VS_startLife 15 = .ok (.getfield 245, 3) := by decide +kernel
theorem d_VS_startLife_18 : decode b_VS_startLife 18 = .ok (.ifCond .lt 14, 3) := by decide +kernel
theorem d_VS_startLife_32 : decode b_VS_startLife 32 = .ok (.aload_n 1, 1) := by decide +kernel
theorem d_VS_startLife_33 : decode b_VS_startLife 33 = .ok (.getfield 248, 3) := by decide +kernel
theorem d_VS_startLife_36 : decode b_VS_startLife 36 = .ok (.ifCond .lt 14, 3) := by decide +kernel
theorem d_VS_startLife_50 : decode b_VS_startLife 50 = .ok (.iload_n 2, 1) := by decide +kernel
theorem d_VS_startLife_51 : decode b_VS_startLife 51 = .ok (.iconst (-1), 1) := by decide +kernel
theorem d_VS_startLife_52 : decode b_VS_startLife 52 = .ok (.if_icmp .eq 22, 3) := by decide +kernel
theorem d_VS_startLife_74 : decode b_VS_startLife 74 = .ok (.aload_n 1, 1) := by decide +kernel
theorem d_VS_startLife_75 : decode b_VS_startLife 75 = .ok (.iconst 0, 1) := by decide +kernel
theorem d_VS_startLife_76 : decode b_VS_startLife 76 = .ok (.putfield 178, 3) := by decide +kernel
theorem d_VS_startLife_79 : decode b_VS_startLife 79 = .ok (.aload_n 1, 1) := by decide +kernel
theorem d_VS_startLife_80 : decode b_VS_startLife 80 = .ok (.iconst 0, 1) := by decide +kernel
theorem d_VS_startLife_81 : decode b_VS_startLife 81 = .ok (.aload_n 0, 1) := by decide +kernel
theorem d_VS_startLife_82 : decode b_VS_startLife 82 = .ok (.ldc_w 256, 3) := by decide +kernel
theorem d_VS_startLife_85 : decode b_VS_startLife 85 = .ok (.invokevirtual 239, 3) := by decide +kernel
theorem d_VS_startLife_88 : decode b_VS_startLife 88 = .ok (.invokestatic 251, 3) := by decide +kernel
theorem d_VS_startLife_91 : decode b_VS_startLife 91 = .ok (.putfield 258, 3) := by decide +kernel
theorem d_VS_startLife_94 : decode b_VS_startLife 94 = .ok (.aload_n 1, 1) := by decide +kernel
theorem d_VS_startLife_95 : decode b_VS_startLife 95 = .ok (.aload_n 0, 1) := by decide +kernel
theorem d_VS_startLife_96 : decode b_VS_startLife 96 = .ok (.getfield 37, 3) := by decide +kernel
theorem d_VS_startLife_99 : decode b_VS_startLife 99 = .ok (.putfield 260, 3) := by decide +kernel
theorem d_VS_startLife_102 : decode b_VS_startLife 102 = .ok (.return_, 1) := by decide +kernel
theorem d_VS_mayBeKept_0 : decode b_VS_mayBeKept 0 = .ok (.aload_n 1, 1) := by decide +kernel
theorem d_VS_mayBeKept_1 : decode b_VS_mayBeKept 1 = .ok (.getfield 263, 3) := by decide +kernel
theorem d_VS_mayBeKept_4 : decode b_VS_mayBeKept 4 = .ok (.ifCond .ne 16, 3) := by decide +kernel
theorem d_VS_mayBeKept_7 : decode b_VS_mayBeKept 7 = .ok (.aload_n 1, 1) := by decide +kernel
theorem d_VS_mayBeKept_8 : decode b_VS_mayBeKept 8 = .ok (.getfield 184, 3) := by decide +kernel
theorem d_VS_mayBeKept_11 : decode b_VS_mayBeKept 11 = .ok (.ldc_w 266, 3) := by decide +kernel
theorem d_VS_mayBeKept_14 : decode b_VS_mayBeKept 14 = .ok (.invokevirtual 268, 3) := by decide +kernel
theorem d_VS_mayBeKept_17 : decode b_VS_mayBeKept 17 = .ok (.ifCond .eq 5, 3) := by decide +kernel
theorem d_VS_mayBeKept_22 : decode b_VS_mayBeKept 22 = .ok (.aload_n 0, 1) := by decide +kernel
theorem d_VS_mayBeKept_23 : decode b_VS_mayBeKept 23 = .ok (.aload_n 0, 1) := by decide +kernel
theorem d_VS_mayBeKept_24 : decode b_VS_mayBeKept 24 = .ok (.getfield 26, 3) := by decide +kernel
theorem d_VS_mayBeKept_27 : decode b_VS_mayBeKept 27 = .ok (.ldc 78, 2) := by decide +kernel
theorem d_VS_mayBeKept_29 : decode b_VS_mayBeKept 29 = .ok (.aload_n 0, 1) := by decide +kernel
theorem d_VS_mayBeKept_30 : decode b_VS_mayBeKept 30 = .ok (.getfield 49, 3) := by decide +kernel
theorem d_VS_mayBeKept_33 : decode b_VS_mayBeKept 33 = .ok (.invokevirtual 80, 3) := by decide +kernel
theorem d_VS_mayBeKept_36 : decode b_VS_mayBeKept 36 = .ok (.pop, 1) := by decide +kernel
theorem d_VS_mayBeKept_37 : decode b_VS_mayBeKept 37 = .ok (.aload_n 0, 1) := by decide +kernel
theorem d_VS_mayBeKept_38 : decode b_VS_mayBeKept 38 = .ok (.getfield 49, 3) := by decide +kernel
theorem d_VS_mayBeKept_41 : decode b_VS_mayBeKept 41 = .ok (.ldc_w 271, 3) := by decide +kernel
theorem d_VS_mayBeKept_44 : decode b_VS_mayBeKept 44 = .ok (.invokevirtual 102, 3) := by decide +kernel
theorem d_VS_mayBeKept_47 : decode b_VS_mayBeKept 47 = .ok (.ifCond .eq 5, 3) := by decide +kernel
theorem d_VS_mayBeKept_52 : decode b_VS_mayBeKept 52 = .ok (.aload_n 1, 1) := by decide +kernel
theorem d_VS_mayBeKept_53 : decode b_VS_mayBeKept 53 = .ok (.getfield 178, 3) := by decide +kernel
theorem d_VS_mayBeKept_56 : decode b_VS_mayBeKept 56 = .ok (.ifCond .gt 13, 3) := by decide +kernel
theorem d_VS_mayBeKept_59 : decode b_VS_mayBeKept 59 = .ok (.aload_n 1, 1) := by decide +kernel
theorem d_VS_mayBeKept_60 : decode b_VS_mayBeKept 60 = .ok (.getfield 149, 3) := by decide +kernel
theorem d_VS_mayBeKept_63 : decode b_VS_mayBeKept 63 = .ok (.getfield 59, 3) := by decide +kernel
theorem d_VS_mayBeKept_66 : decode b_VS_mayBeKept 66 = .ok (.ifCond .le 7, 3) := by decide +kernel
theorem d_VS_mayBeKept_73 : decode b_VS_mayBeKept 73 = .ok (.iconst 0, 1) := by decide +kernel
theorem d_VS_mayBeKept_74 : decode b_VS_mayBeKept 74 = .ok (.ireturn, 1) := by decide +kernel
theorem d_VS_keep_0 : decode b_VS_keep 0 = .ok (.aload_n 0, 1) := by decide +kernel
theorem d_VS_keep_1 : decode b_VS_keep 1 = .ok (.iload_n 1, 1) := by decide +kernel
theorem d_VS_keep_2 : decode b_VS_keep 2 = .ok (.invokevirtual 74, 3) := by decide +kernel
theorem d_VS_keep_5 : decode b_VS_keep 5 = .ok (.aload_n 0, 1) := by decide +kernel
theorem d_VS_keep_6 : decode b_VS_keep 6 = .ok (.getfield 19, 3) := by decide +kernel
theorem d_VS_keep_9 : decode b_VS_keep 9 = .ok (.invokevirtual 106, 3) := by decide +kernel
theorem d_VS_keep_12 : decode b_VS_keep 12 = .ok (.astore_n 2, 1) := by decide +kernel
theorem d_VS_keep_13 : decode b_VS_keep 13 = .ok (.aload_n 0, 1) := by decide +kernel
theorem d_VS_keep_14 : decode b_VS_keep 14 = .ok (.aload_n 2, 1) := by decide +kernel
theorem d_VS_keep_15 : decode b_VS_keep 15 = .ok (.iload_n 1, 1) := by decide +kernel
theorem d_VS_keep_16 : decode b_VS_keep 16 = .ok (.invokevirtual 110, 3) := by decide +kernel
theorem d_VS_keep_19 : decode b_VS_keep 19 = .ok (.aload_n 0, 1) := by decide +kernel
theorem d_VS_keep_20 : decode b_VS_keep 20 = .ok (.aload_n 0, 1) := by decide +kernel
theorem d_VS_keep_21 : decode b_VS_keep 21 = .ok (.getfield 30, 3) := by decide +kernel
theorem d_VS_keep_24 : decode b_VS_keep 24 = .ok (.ldc 78, 2) := by decide +kernel
theorem d_VS_keep_26 : decode b_VS_keep 26 = .ok (.aload_n 0, 1) := by decide +kernel
theorem d_VS_keep_27 : decode b_VS_keep 27 = .ok (.getfield 49, 3) := by decide +kernel
theorem d_VS_keep_30 : decode b_VS_keep 30 = .ok (.invokevirtual 80, 3) := by decide +kernel
theorem d_VS_keep_33 : decode b_VS_keep 33 = .ok (.pop, 1) := by decide +kernel
theorem d_VS_keep_34 : decode b_VS_keep 34 = .ok (.aload_n 2, 1) := by decide +kernel
theorem d_VS_keep_35 : decode b_VS_keep 35 = .ok (.aload_n 0, 1) := by decide +kernel
theorem d_VS_keep_36 : decode b_VS_keep 36 = .ok (.getfield 49, 3) := by decide +kernel
theorem d_VS_keep_39 : decode b_VS_keep 39 = .ok (.invokevirtual 114, 3) := by decide +kernel
theorem d_VS_keep_42 : decode b_VS_keep 42 = .ok (.aload_n 0, 1) := by decide +kernel
theorem d_VS_keep_43 : decode b_VS_keep 43 = .ok (.aload_n 2, 1) := by decide +kernel
theorem d_VS_keep_44 : decode b_VS_keep 44 = .ok (.invokevirtual 120, 3) := by decide +kernel
theorem d_VS_keep_47 : decode b_VS_keep 47 = .ok (.aload_n 0, 1) := by decide +kernel
theorem d_VS_keep_48 : decode b_VS_keep 48 = .ok (.getfield 19, 3) := by decide +kernel
theorem d_VS_keep_51 : decode b_VS_keep 51 = .ok (.aload_n 0, 1) := by decide +kernel
theorem d_VS_keep_52 : decode b_VS_keep 52 = .ok (.aload_n 2, 1) := by decide +kernel
theorem d_VS_keep_53 : decode b_VS_keep 53 = .ok (.invokevirtual 123, 3) := by decide +kernel
theorem d_VS_keep_56 : decode b_VS_keep 56 = .ok (.invokevirtual 126, 3) := by decide +kernel
theorem d_VS_keep_59 : decode b_VS_keep 59 = .ok (.aload_n 0, 1) := by decide +kernel
theorem d_VS_keep_60 : decode b_VS_keep 60 = .ok (.aload_n 2, 1) := by decide +kernel
theorem d_VS_keep_61 : decode b_VS_keep 61 = .ok (.invokevirtual 129, 3) := by decide +kernel
theorem d_VS_keep_64 : decode b_VS_keep 64 = .ok (.ifCond .ne 5, 3) := by decide +kernel
theorem d_VS_keep_67 : decode b_VS_keep 67 = .ok (.iconst 0, 1) := by decide +kernel
theorem d_VS_keep_68 : decode b_VS_keep 68 = .ok (.ireturn, 1) := by decide +kernel
theorem d_Mo_name_140 : decode b_Mo_name 140 = .ok (.iload 7, 2) := by decide +kernel
theorem d_Mo_name_142 : decode b_Mo_name 142 = .ok (.iload 5, 2) := by decide +kernel
theorem d_Mo_name_144 : decode b_Mo_name 144 = .ok (.if_icmp .ge 34, 3) := by decide +kernel
theorem d_Mo_name_178 : decode b_Mo_name 178 = .ok (.aload 6, 2) := by decide +kernel
theorem d_Mo_name_180 : decode b_Mo_name 180 = .ok (.areturn, 1) := by decide +kernel
theorem d_Mo_name_147 : decode b_Mo_name 147 = .ok (.aload 6, 2) := by decide +kernel
theorem d_Mo_name_149 : decode b_Mo_name 149 = .ok (.iload 4, 2) := by decide +kernel
theorem d_Mo_name_151 : decode b_Mo_name 151 = .ok (.iload 7, 2) := by decide +kernel
theorem d_Mo_name_153 : decode b_Mo_name 153 = .ok (.iadd, 1) := by decide +kernel
theorem d_Mo_name_154 : decode b_Mo_name 154 = .ok (.lload_n 2, 1) := by decide +kernel
theorem d_Mo_name_155 : decode b_Mo_name 155 = .ok (.bipush 8, 2) := by decide +kernel
theorem d_Mo_name_157 : decode b_Mo_name 157 = .ok (.iload 5, 2) := by decide +kernel
theorem d_Mo_name_159 : decode b_Mo_name 159 = .ok (.iconst 1, 1) := by decide +kernel
theorem d_Mo_name_160 : decode b_Mo_name 160 = .ok (.isub, 1) := by decide +kernel
theorem d_Mo_name_161 : decode b_Mo_name 161 = .ok (.iload 7, 2) := by decide +kernel
theorem d_Mo_name_163 : decode b_Mo_name 163 = .ok (.isub, 1) := by decide +kernel
theorem d_Mo_name_164 : decode b_Mo_name 164 = .ok (.imul, 1) := by decide +kernel
theorem d_Mo_name_165 : decode b_Mo_name 165 = .ok (.lushr, 1) := by decide +kernel
theorem d_Mo_name_166 : decode b_Mo_name 166 = .ok (.ldc2_w 38, 3) := by decide +kernel
theorem d_Mo_name_169 : decode b_Mo_name 169 = .ok (.land, 1) := by decide +kernel
theorem d_Mo_name_170 : decode b_Mo_name 170 = .ok (.l2i, 1) := by decide +kernel
theorem d_Mo_name_171 : decode b_Mo_name 171 = .ok (.iastore, 1) := by decide +kernel
theorem d_Mo_name_172 : decode b_Mo_name 172 = .ok (.iinc 7 1, 3) := by decide +kernel
theorem d_Mo_name_175 : decode b_Mo_name 175 = .ok (.goto (-35), 3) := by decide +kernel
theorem d_Mo_name_102 : decode b_Mo_name 102 = .ok (.iload 7, 2) := by decide +kernel
theorem d_Mo_name_104 : decode b_Mo_name 104 = .ok (.iload 4, 2) := by decide +kernel
theorem d_Mo_name_106 : decode b_Mo_name 106 = .ok (.if_icmp .ge 31, 3) := by decide +kernel
theorem d_Mo_name_137 : decode b_Mo_name 137 = .ok (.iconst 0, 1) := by decide +kernel
theorem d_Mo_name_138 : decode b_Mo_name 138 = .ok (.istore 7, 2) := by decide +kernel
theorem d_Mo_name_109 : decode b_Mo_name 109 = .ok (.aload 6, 2) := by decide +kernel
theorem d_Mo_name_111 : decode b_Mo_name 111 = .ok (.iload 7, 2) := by decide +kernel
theorem d_Mo_name_113 : decode b_Mo_name 113 = .ok (.lload_n 0, 1) := by decide +kernel
theorem d_Mo_name_114 : decode b_Mo_name 114 = .ok (.bipush 8, 2) := by decide +kernel
theorem d_Mo_name_116 : decode b_Mo_name 116 = .ok (.iload 4, 2) := by decide +kernel
theorem d_Mo_name_118 : decode b_Mo_name 118 = .ok (.iconst 1, 1) := by decide +kernel
theorem d_Mo_name_119 : decode b_Mo_name 119 = .ok (.isub, 1) := by decide +kernel
theorem d_Mo_name_120 : decode b_Mo_name 120 = .ok (.iload 7, 2) := by decide +kernel
theorem d_Mo_name_122 : decode b_Mo_name 122 = .ok (.isub, 1) := by decide +kernel
theorem d_Mo_name_123 : decode b_Mo_name 123 = .ok (.imul, 1) := by decide +kernel
theorem d_Mo_name_124 : decode b_Mo_name 124 = .ok (.lushr, 1) := by decide +kernel
theorem d_Mo_name_125 : decode b_Mo_name 125 = .ok (.ldc2_w 38, 3) := by decide +kernel
theorem d_Mo_name_128 : decode b_Mo_name 128 = .ok (.land, 1) := by decide +kernel
theorem d_Mo_name_129 : decode b_Mo_name 129 = .ok (.l2i, 1) := by decide +kernel
theorem d_Mo_name_130 : decode b_Mo_name 130 = .ok (.iastore, 1) := by decide +kernel
theorem d_Mo_name_131 : decode b_Mo_name 131 = .ok (.iinc 7 1, 3) := by decide +kernel
theorem d_Mo_name_134 : decode b_Mo_name 134 = .ok (.goto (-32), 3) := by decide +kernel
theorem d_Mo_name_51 : decode b_Mo_name 51 = .ok (.iload 6, 2) := by decide +kernel
theorem d_Mo_name_53 : decode b_Mo_name 53 = .ok (.bipush 8, 2) := by decide +kernel
theorem d_Mo_name_55 : decode b_Mo_name 55 = .ok (.if_icmp .ge 35, 3) := by decide +kernel
theorem d_Mo_name_90 : decode b_Mo_name 90 = .ok (.iload 4, 2) := by decide +kernel
theorem d_Mo_name_92 : decode b_Mo_name 92 = .ok (.iload 5, 2) := by decide +kernel
theorem d_Mo_name_94 : decode b_Mo_name 94 = .ok (.iadd, 1) := by decide +kernel
theorem d_Mo_name_95 : decode b_Mo_name 95 = .ok (.newarray .int, 2) := by decide +kernel
theorem d_Mo_name_97 : decode b_Mo_name 97 = .ok (.astore 6, 2) := by decide +kernel
theorem d_Mo_name_99 : decode b_Mo_name 99 = .ok (.iconst 0, 1) := by decide +kernel
theorem d_Mo_name_100 : decode b_Mo_name 100 = .ok (.istore 7, 2) := by decide +kernel
theorem d_Mo_name_58 : decode b_Mo_name 58 = .ok (.iload 5, 2) := by decide +kernel
theorem d_Mo_name_60 : decode b_Mo_name 60 = .ok (.lload_n 2, 1) := by decide +kernel
theorem d_Mo_name_61 : decode b_Mo_name 61 = .ok (.bipush 8, 2) := by decide +kernel
theorem d_Mo_name_63 : decode b_Mo_name 63 = .ok (.iload 6, 2) := by decide +kernel
theorem d_Mo_name_65 : decode b_Mo_name 65 = .ok (.imul, 1) := by decide +kernel
theorem d_Mo_name_66 : decode b_Mo_name 66 = .ok (.lushr, 1) := by decide +kernel
theorem d_Mo_name_67 : decode b_Mo_name 67 = .ok (.ldc2_w 38, 3) := by decide +kernel
theorem d_Mo_name_70 : decode b_Mo_name 70 = .ok (.land, 1) := by decide +kernel
theorem d_Mo_name_71 : decode b_Mo_name 71 = .ok (.lconst 0, 1) := by decide +kernel
theorem d_Mo_name_72 : decode b_Mo_name 72 = .ok (.lcmp, 1) := by decide +kernel
theorem d_Mo_name_73 : decode b_Mo_name 73 = .ok (.ifCond .eq 7, 3) := by decide +kernel
theorem d_Mo_name_80 : decode b_Mo_name 80 = .ok (.iconst 0, 1) := by decide +kernel
theorem d_Mo_name_81 : decode b_Mo_name 81 = .ok (.iadd, 1) := by decide +kernel
theorem d_Mo_name_82 : decode b_Mo_name 82 = .ok (.istore 5, 2) := by decide +kernel
theorem d_Mo_name_84 : decode b_Mo_name 84 = .ok (.iinc 6 1, 3) := by decide +kernel
theorem d_Mo_name_87 : decode b_Mo_name 87 = .ok (.goto (-36), 3) := by decide +kernel
theorem d_Mo_name_76 : decode b_Mo_name 76 = .ok (.iconst 1, 1) := by decide +kernel
theorem d_Mo_name_77 : decode b_Mo_name 77 = .ok (.goto 4, 3) := by decide +kernel
theorem d_Mo_name_6 : decode b_Mo_name 6 = .ok (.iload 5, 2) := by decide +kernel
theorem d_Mo_name_8 : decode b_Mo_name 8 = .ok (.bipush 8, 2) := by decide +kernel
theorem d_Mo_name_10 : decode b_Mo_name 10 = .ok (.if_icmp .ge 35, 3) := by decide +kernel
theorem d_Mo_name_45 : decode b_Mo_name 45 = .ok (.iconst 0, 1) := by decide +kernel
theorem d_Mo_name_46 : decode b_Mo_name 46 = .ok (.istore 5, 2) := by decide +kernel
theorem d_Mo_name_48 : decode b_Mo_name 48 = .ok (.iconst 0, 1) := by decide +kernel
theorem d_Mo_name_49 : decode b_Mo_name 49 = .ok (.istore 6, 2) := by decide +kernel
theorem d_Mo_name_13 : decode b_Mo_name 13 = .ok (.iload 4, 2) := by decide +kernel
theorem d_Mo_name_15 : decode b_Mo_name 15 = .ok (.lload_n 0, 1) := by decide +kernel
theorem d_Mo_name_16 : decode b_Mo_name 16 = .ok (.bipush 8, 2) := by decide +kernel
theorem d_Mo_name_18 : decode b_Mo_name 18 = .ok (.iload 5, 2) := by decide +kernel
theorem d_Mo_name_20 : decode b_Mo_name 20 = .ok (.imul, 1) := by decide +kernel
theorem d_Mo_name_21 : decode b_Mo_name 21 = .ok (.lushr, 1) := by decide +kernel
theorem d_Mo_name_22 : decode b_Mo_name 22 = .ok (.ldc2_w 38, 3) := by decide +kernel
theorem d_Mo_name_25 : decode b_Mo_name 25 = .ok (.land, 1) := by decide +kernel
theorem d_Mo_name_26 : decode b_Mo_name 26 = .ok (.lconst 0, 1) := by decide +kernel
theorem d_Mo_name_27 : decode b_Mo_name 27 = .ok (.lcmp, 1) := by decide +kernel
theorem d_Mo_name_28 : decode b_Mo_name 28 = .ok (.ifCond .eq 7, 3) := by decide +kernel
theorem d_Mo_name_35 : decode b_Mo_name 35 = .ok (.iconst 0, 1) := by decide +kernel
theorem d_Mo_name_36 : decode b_Mo_name 36 = .ok (.iadd, 1) := by decide +kernel
theorem d_Mo_name_37 : decode b_Mo_name 37 = .ok (.istore 4, 2) := by decide +kernel
theorem d_Mo_name_39 : decode b_Mo_name 39 = .ok (.iinc 5 1, 3) := by decide +kernel
theorem d_Mo_name_42 : decode b_Mo_name 42 = .ok (.goto (-36), 3) := by decide +kernel
theorem d_Mo_name_31 : decode b_Mo_name 31 = .ok (.iconst 1, 1) := by decide +kernel
theorem d_Mo_name_32 : decode b_Mo_name 32 = .ok (.goto 4, 3) := by decide +kernel
theorem d_Mo_name_0 : decode b_Mo_name 0 = .ok (.iconst 0, 1) := by decide +kernel
theorem d_Mo_name_1 : decode b_Mo_name 1 = .ok (.istore 4, 2) := by decide +kernel
theorem d_Mo_name_3 : decode b_Mo_name 3 = .ok (.iconst 0, 1) := by decide +kernel
theorem d_Mo_name_4 : decode b_Mo_name 4 = .ok (.istore 5, 2) := by decide +kernel
set_option maxRecDepth 20000 in
theorem w_63 : Cond.methodLink "VaryStore$Row" 3 objectInit ∈ TB := tb_in 63 (by decide +kernel) (by decide +kernel)
set_option maxRecDepth 20000 in
theorem w_56 : Cond.instanceMethod objectInit ∈ TB := tb_in 56 (by decide +kernel) (by decide +kernel)
set_option maxRecDepth 20000 in
theorem w_57 : Cond.code objectInit ⟨#[0xb1]⟩ 1 none ∈ TB := tb_in 57 (by decide +kernel) (by decide +kernel)
set_option maxRecDepth 20000 in
theorem w_74 : Cond.arrayClass .char ∈ TB := tb_in 74 (by decide +kernel) (by decide +kernel)
set_option maxRecDepth 20000 in
theorem w_64 : Cond.fieldLink "VaryStore$Row" 9 "VaryStore$Row" "letters" "[C"  ∈ TB := tb_in 64 (by decide +kernel) (by decide +kernel)
set_option maxRecDepth 20000 in
theorem w_65 : Cond.fieldLink "VaryStore$Row" 15 "VaryStore$Row" "length" "I"  ∈ TB := tb_in 65 (by decide +kernel) (by decide +kernel)
set_option maxRecDepth 20000 in
theorem w_124 : Cond.methodLink "VaryStore$Items" 3 objectInit ∈ TB := tb_in 124 (by decide +kernel) (by decide +kernel)
set_option maxRecDepth 20000 in
theorem w_59 : Cond.instantiable "VaryStore$Row" 2 ∈ TB := tb_in 59 (by decide +kernel) (by decide +kernel)
set_option maxRecDepth 20000 in
theorem w_125 : Cond.classLink "VaryStore$Items" 9 "VaryStore$Row" ∈ TB := tb_in 125 (by decide +kernel) (by decide +kernel)
set_option maxRecDepth 20000 in
theorem w_31 : Cond.initialized "VaryStore$Row" ∈ TB := tb_in 31 (by decide +kernel) (by decide +kernel)
set_option maxRecDepth 20000 in
theorem w_62 : Cond.code ⟨"VaryStore$Row", "<init>", "()V"⟩ prog_3_method_1_code 1 none ∈ TB := tb_in 62 (by decide +kernel) (by decide +kernel)
set_option maxRecDepth 20000 in
theorem w_126 : Cond.methodLinkNest "VaryStore$Items" 11 ⟨"VaryStore$Row", "<init>", "()V"⟩ "VaryStore" ∈ NB := nb_in 126 (by decide +kernel) (by decide +kernel)
set_option maxRecDepth 20000 in
theorem w_61 : Cond.instanceMethod ⟨"VaryStore$Row", "<init>", "()V"⟩ ∈ TB := tb_in 61 (by decide +kernel) (by decide +kernel)
set_option maxRecDepth 20000 in
theorem w_127 : Cond.fieldLink "VaryStore$Items" 12 "VaryStore$Items" "row" "LVaryStore$Row;"  ∈ TB := tb_in 127 (by decide +kernel) (by decide +kernel)
set_option maxRecDepth 20000 in
theorem w_118 : Cond.arrayClass .int ∈ TB := tb_in 118 (by decide +kernel) (by decide +kernel)
set_option maxRecDepth 20000 in
theorem w_128 : Cond.fieldLink "VaryStore$Items" 18 "VaryStore$Items" "ends" "[I"  ∈ TB := tb_in 128 (by decide +kernel) (by decide +kernel)
set_option maxRecDepth 20000 in
theorem w_129 : Cond.fieldLink "VaryStore$Items" 22 "VaryStore$Items" "count" "I"  ∈ TB := tb_in 129 (by decide +kernel) (by decide +kernel)
set_option maxRecDepth 20000 in
theorem w_99 : Cond.methodLink "VaryStore$Text" 3 objectInit ∈ TB := tb_in 99 (by decide +kernel) (by decide +kernel)
set_option maxRecDepth 20000 in
theorem w_100 : Cond.classLink "VaryStore$Text" 9 "VaryStore$Row" ∈ TB := tb_in 100 (by decide +kernel) (by decide +kernel)
set_option maxRecDepth 20000 in
theorem w_101 : Cond.methodLinkNest "VaryStore$Text" 11 ⟨"VaryStore$Row", "<init>", "()V"⟩ "VaryStore" ∈ NB := nb_in 101 (by decide +kernel) (by decide +kernel)
set_option maxRecDepth 20000 in
theorem w_102 : Cond.fieldLink "VaryStore$Text" 12 "VaryStore$Text" "row" "LVaryStore$Row;"  ∈ TB := tb_in 102 (by decide +kernel) (by decide +kernel)
set_option maxRecDepth 20000 in
theorem w_103 : Cond.fieldLink "VaryStore$Text" 18 "VaryStore$Text" "starts" "[I"  ∈ TB := tb_in 103 (by decide +kernel) (by decide +kernel)
set_option maxRecDepth 20000 in
theorem w_104 : Cond.fieldLink "VaryStore$Text" 22 "VaryStore$Text" "colons" "[I"  ∈ TB := tb_in 104 (by decide +kernel) (by decide +kernel)
set_option maxRecDepth 20000 in
theorem w_105 : Cond.fieldLink "VaryStore$Text" 25 "VaryStore$Text" "ends" "[I"  ∈ TB := tb_in 105 (by decide +kernel) (by decide +kernel)
set_option maxRecDepth 20000 in
theorem w_106 : Cond.fieldLink "VaryStore$Text" 28 "VaryStore$Text" "lines" "I"  ∈ TB := tb_in 106 (by decide +kernel) (by decide +kernel)
set_option maxRecDepth 20000 in
theorem w_80 : Cond.methodLink "VaryStore$Shelf" 3 objectInit ∈ TB := tb_in 80 (by decide +kernel) (by decide +kernel)
set_option maxRecDepth 20000 in
theorem w_82 : Cond.arrayOver (.object "VaryStore$Thing") ∈ NB := nb_in 82 (by decide +kernel) (by decide +kernel)
set_option maxRecDepth 20000 in
theorem w_81 : Cond.classLink "VaryStore$Shelf" 9 "VaryStore$Thing" ∈ TB := tb_in 81 (by decide +kernel) (by decide +kernel)
set_option maxRecDepth 20000 in
theorem w_83 : Cond.fieldLink "VaryStore$Shelf" 11 "VaryStore$Shelf" "all" "[LVaryStore$Thing;"  ∈ TB := tb_in 83 (by decide +kernel) (by decide +kernel)
set_option maxRecDepth 20000 in
theorem w_84 : Cond.fieldLink "VaryStore$Shelf" 17 "VaryStore$Shelf" "count" "I"  ∈ TB := tb_in 84 (by decide +kernel) (by decide +kernel)
set_option maxRecDepth 20000 in
theorem w_86 : Cond.fieldLink "VaryStore$Shelf" 21 "VaryStore$Shelf" "uses" "I"  ∈ TB := tb_in 86 (by decide +kernel) (by decide +kernel)
set_option maxRecDepth 20000 in
theorem w_518 : Cond.methodLink "VaryStore$Thing" 3 objectInit ∈ TB := tb_in 518 (by decide +kernel) (by decide +kernel)
set_option maxRecDepth 20000 in
theorem w_519 : Cond.classLink "VaryStore$Thing" 9 "VaryStore$Row" ∈ TB := tb_in 519 (by decide +kernel) (by decide +kernel)
set_option maxRecDepth 20000 in
theorem w_520 : Cond.methodLinkNest "VaryStore$Thing" 11 ⟨"VaryStore$Row", "<init>", "()V"⟩ "VaryStore" ∈ NB := nb_in 520 (by decide +kernel) (by decide +kernel)
set_option maxRecDepth 20000 in
theorem w_525 : Cond.fieldLink "VaryStore$Thing" 12 "VaryStore$Thing" "etag" "LVaryStore$Row;"  ∈ TB := tb_in 525 (by decide +kernel) (by decide +kernel)
set_option maxRecDepth 20000 in
theorem w_120 : Cond.instantiable "VaryStore$Items" 3 ∈ TB := tb_in 120 (by decide +kernel) (by decide +kernel)
set_option maxRecDepth 20000 in
theorem w_521 : Cond.classLink "VaryStore$Thing" 18 "VaryStore$Items" ∈ TB := tb_in 521 (by decide +kernel) (by decide +kernel)
set_option maxRecDepth 20000 in
theorem w_34 : Cond.initialized "VaryStore$Items" ∈ TB := tb_in 34 (by decide +kernel) (by decide +kernel)
set_option maxRecDepth 20000 in
theorem w_123 : Cond.code ⟨"VaryStore$Items", "<init>", "()V"⟩ prog_2_method_1_code 1 none ∈ TB := tb_in 123 (by decide +kernel) (by decide +kernel)
set_option maxRecDepth 20000 in
theorem w_522 : Cond.methodLinkNest "VaryStore$Thing" 20 ⟨"VaryStore$Items", "<init>", "()V"⟩ "VaryStore" ∈ NB := nb_in 522 (by decide +kernel) (by decide +kernel)
set_option maxRecDepth 20000 in
theorem w_122 : Cond.instanceMethod ⟨"VaryStore$Items", "<init>", "()V"⟩ ∈ TB := tb_in 122 (by decide +kernel) (by decide +kernel)
set_option maxRecDepth 20000 in
theorem w_527 : Cond.fieldLink "VaryStore$Thing" 21 "VaryStore$Thing" "vary" "LVaryStore$Items;"  ∈ TB := tb_in 527 (by decide +kernel) (by decide +kernel)
set_option maxRecDepth 20000 in
theorem w_95 : Cond.instantiable "VaryStore$Text" 5 ∈ TB := tb_in 95 (by decide +kernel) (by decide +kernel)
set_option maxRecDepth 20000 in
theorem w_523 : Cond.classLink "VaryStore$Thing" 25 "VaryStore$Text" ∈ TB := tb_in 523 (by decide +kernel) (by decide +kernel)
set_option maxRecDepth 20000 in
theorem w_33 : Cond.initialized "VaryStore$Text" ∈ TB := tb_in 33 (by decide +kernel) (by decide +kernel)
set_option maxRecDepth 20000 in
theorem w_98 : Cond.code ⟨"VaryStore$Text", "<init>", "()V"⟩ prog_5_method_1_code 1 none ∈ TB := tb_in 98 (by decide +kernel) (by decide +kernel)
set_option maxRecDepth 20000 in
theorem w_524 : Cond.methodLinkNest "VaryStore$Thing" 27 ⟨"VaryStore$Text", "<init>", "()V"⟩ "VaryStore" ∈ NB := nb_in 524 (by decide +kernel) (by decide +kernel)
set_option maxRecDepth 20000 in
theorem w_97 : Cond.instanceMethod ⟨"VaryStore$Text", "<init>", "()V"⟩ ∈ TB := tb_in 97 (by decide +kernel) (by decide +kernel)
set_option maxRecDepth 20000 in
theorem w_529 : Cond.fieldLink "VaryStore$Thing" 28 "VaryStore$Thing" "request" "LVaryStore$Text;"  ∈ TB := tb_in 529 (by decide +kernel) (by decide +kernel)
set_option maxRecDepth 20000 in
theorem w_531 : Cond.fieldLink "VaryStore$Thing" 32 "VaryStore$Thing" "path" "I"  ∈ TB := tb_in 531 (by decide +kernel) (by decide +kernel)
set_option maxRecDepth 20000 in
theorem w_533 : Cond.fieldLink "VaryStore$Thing" 36 "VaryStore$Thing" "sharedMaxAge" "I"  ∈ TB := tb_in 533 (by decide +kernel) (by decide +kernel)
set_option maxRecDepth 20000 in
theorem w_535 : Cond.fieldLink "VaryStore$Thing" 39 "VaryStore$Thing" "maxAge" "I"  ∈ TB := tb_in 535 (by decide +kernel) (by decide +kernel)
set_option maxRecDepth 20000 in
theorem w_537 : Cond.fieldLink "VaryStore$Thing" 42 "VaryStore$Thing" "secret" "Z"  ∈ TB := tb_in 537 (by decide +kernel) (by decide +kernel)
set_option maxRecDepth 20000 in
theorem w_539 : Cond.fieldLink "VaryStore$Thing" 46 "VaryStore$Thing" "unsure" "Z"  ∈ TB := tb_in 539 (by decide +kernel) (by decide +kernel)
set_option maxRecDepth 20000 in
theorem w_540 : Cond.fieldLink "VaryStore$Thing" 49 "VaryStore$Thing" "strict" "Z"  ∈ TB := tb_in 540 (by decide +kernel) (by decide +kernel)
set_option maxRecDepth 20000 in
theorem w_542 : Cond.fieldLink "VaryStore$Thing" 52 "VaryStore$Thing" "life" "I"  ∈ TB := tb_in 542 (by decide +kernel) (by decide +kernel)
set_option maxRecDepth 20000 in
theorem w_544 : Cond.fieldLink "VaryStore$Thing" 55 "VaryStore$Thing" "age" "I"  ∈ TB := tb_in 544 (by decide +kernel) (by decide +kernel)
set_option maxRecDepth 20000 in
theorem w_546 : Cond.fieldLink "VaryStore$Thing" 58 "VaryStore$Thing" "since" "I"  ∈ TB := tb_in 546 (by decide +kernel) (by decide +kernel)
set_option maxRecDepth 20000 in
theorem w_548 : Cond.fieldLink "VaryStore$Thing" 61 "VaryStore$Thing" "used" "I"  ∈ TB := tb_in 548 (by decide +kernel) (by decide +kernel)
set_option maxRecDepth 20000 in
theorem w_55 : Cond.methodLink "VaryStore" 3 objectInit ∈ TB := tb_in 55 (by decide +kernel) (by decide +kernel)
set_option maxRecDepth 20000 in
theorem w_58 : Cond.classLink "VaryStore" 9 "VaryStore$Row" ∈ TB := tb_in 58 (by decide +kernel) (by decide +kernel)
set_option maxRecDepth 20000 in
theorem w_60 : Cond.methodLinkNest "VaryStore" 11 ⟨"VaryStore$Row", "<init>", "()V"⟩ "VaryStore" ∈ NB := nb_in 60 (by decide +kernel) (by decide +kernel)
set_option maxRecDepth 20000 in
theorem w_138 : Cond.fieldLink "VaryStore" 12 "VaryStore" "tape" "LVaryStore$Row;"  ∈ TB := tb_in 138 (by decide +kernel) (by decide +kernel)
set_option maxRecDepth 20000 in
theorem w_76 : Cond.instantiable "VaryStore$Shelf" 3 ∈ TB := tb_in 76 (by decide +kernel) (by decide +kernel)
set_option maxRecDepth 20000 in
theorem w_75 : Cond.classLink "VaryStore" 16 "VaryStore$Shelf" ∈ TB := tb_in 75 (by decide +kernel) (by decide +kernel)
set_option maxRecDepth 20000 in
theorem w_32 : Cond.initialized "VaryStore$Shelf" ∈ TB := tb_in 32 (by decide +kernel) (by decide +kernel)
set_option maxRecDepth 20000 in
theorem w_79 : Cond.code ⟨"VaryStore$Shelf", "<init>", "()V"⟩ prog_4_method_1_code 1 none ∈ TB := tb_in 79 (by decide +kernel) (by decide +kernel)
set_option maxRecDepth 20000 in
theorem w_77 : Cond.methodLinkNest "VaryStore" 18 ⟨"VaryStore$Shelf", "<init>", "()V"⟩ "VaryStore" ∈ NB := nb_in 77 (by decide +kernel) (by decide +kernel)
set_option maxRecDepth 20000 in
theorem w_78 : Cond.instanceMethod ⟨"VaryStore$Shelf", "<init>", "()V"⟩ ∈ TB := tb_in 78 (by decide +kernel) (by decide +kernel)
set_option maxRecDepth 20000 in
theorem w_139 : Cond.fieldLink "VaryStore" 19 "VaryStore" "shelf" "LVaryStore$Shelf;"  ∈ TB := tb_in 139 (by decide +kernel) (by decide +kernel)
set_option maxRecDepth 20000 in
theorem w_94 : Cond.classLink "VaryStore" 23 "VaryStore$Text" ∈ TB := tb_in 94 (by decide +kernel) (by decide +kernel)
set_option maxRecDepth 20000 in
theorem w_96 : Cond.methodLinkNest "VaryStore" 25 ⟨"VaryStore$Text", "<init>", "()V"⟩ "VaryStore" ∈ NB := nb_in 96 (by decide +kernel) (by decide +kernel)
set_option maxRecDepth 20000 in
theorem w_140 : Cond.fieldLink "VaryStore" 26 "VaryStore" "request" "LVaryStore$Text;"  ∈ TB := tb_in 140 (by decide +kernel) (by decide +kernel)
set_option maxRecDepth 20000 in
theorem w_141 : Cond.fieldLink "VaryStore" 30 "VaryStore" "draft" "LVaryStore$Text;"  ∈ TB := tb_in 141 (by decide +kernel) (by decide +kernel)
set_option maxRecDepth 20000 in
theorem w_142 : Cond.fieldLink "VaryStore" 33 "VaryStore" "faultPlace" "I"  ∈ TB := tb_in 142 (by decide +kernel) (by decide +kernel)
set_option maxRecDepth 20000 in
theorem w_143 : Cond.fieldLink "VaryStore" 37 "VaryStore" "time" "I"  ∈ TB := tb_in 143 (by decide +kernel) (by decide +kernel)
set_option maxRecDepth 20000 in
theorem w_144 : Cond.fieldLink "VaryStore" 40 "VaryStore" "name" "LVaryStore$Row;"  ∈ TB := tb_in 144 (by decide +kernel) (by decide +kernel)
set_option maxRecDepth 20000 in
theorem w_145 : Cond.fieldLink "VaryStore" 43 "VaryStore" "value" "LVaryStore$Row;"  ∈ TB := tb_in 145 (by decide +kernel) (by decide +kernel)
set_option maxRecDepth 20000 in
theorem w_119 : Cond.classLink "VaryStore" 46 "VaryStore$Items" ∈ TB := tb_in 119 (by decide +kernel) (by decide +kernel)
set_option maxRecDepth 20000 in
theorem w_121 : Cond.methodLinkNest "VaryStore" 48 ⟨"VaryStore$Items", "<init>", "()V"⟩ "VaryStore" ∈ NB := nb_in 121 (by decide +kernel) (by decide +kernel)
set_option maxRecDepth 20000 in
theorem w_146 : Cond.fieldLink "VaryStore" 49 "VaryStore" "words" "LVaryStore$Items;"  ∈ TB := tb_in 146 (by decide +kernel) (by decide +kernel)
set_option maxRecDepth 20000 in
theorem w_147 : Cond.fieldLink "VaryStore" 53 "VaryStore" "left" "LVaryStore$Items;"  ∈ TB := tb_in 147 (by decide +kernel) (by decide +kernel)
set_option maxRecDepth 20000 in
theorem w_148 : Cond.fieldLink "VaryStore" 56 "VaryStore" "right" "LVaryStore$Items;"  ∈ TB := tb_in 148 (by decide +kernel) (by decide +kernel)
set_option maxRecDepth 20000 in
theorem w_230 : Cond.methodLink "VaryStore$Row" 19 arraycopyName ∈ TB := tb_in 230 (by decide +kernel) (by decide +kernel)
set_option maxRecDepth 20000 in
theorem w_232 : Cond.native arraycopyName ∈ TB := tb_in 232 (by decide +kernel) (by decide +kernel)
set_option maxRecDepth 20000 in
theorem w_231 : Cond.static arraycopyName ∈ TB := tb_in 231 (by decide +kernel) (by decide +kernel)
set_option maxRecDepth 20000 in
theorem w_37 : Cond.initialized "java/lang/System" ∈ TB := tb_in 37 (by decide +kernel) (by decide +kernel)
set_option maxRecDepth 20000 in
theorem w_350 : Cond.fieldLink "java/lang/String" 38 "java/lang/String" "COMPACT_STRINGS" "Z"  ∈ TB := tb_in 350 (by decide +kernel) (by decide +kernel)
set_option maxRecDepth 20000 in
theorem w_984 : Cond.fieldLink "java/lang/String" 15 "java/lang/String" "coder" "B" ∈ TB := tb_in 984 (by decide +kernel) (by decide +kernel)
set_option maxRecDepth 20000 in
theorem w_983 : Cond.fieldLink "java/lang/String" 9 "java/lang/String" "value" "[B" ∈ TB := tb_in 983 (by decide +kernel) (by decide +kernel)
set_option maxRecDepth 20000 in
theorem w_43 : Cond.initialized "java/lang/String" ∈ TB := tb_in 43 (by decide +kernel) (by decide +kernel)
set_option maxRecDepth 20000 in
theorem w_349 : Cond.code ⟨"java/lang/String", "coder", "()B"⟩ prog_15_method_152_code 1 (some .byte) ∈ TB := tb_in 349 (by decide +kernel) (by decide +kernel)
set_option maxRecDepth 20000 in
theorem w_346 : Cond.methodLink "java/lang/String" 335 ⟨"java/lang/String", "coder", "()B"⟩ ∈ TB := tb_in 346 (by decide +kernel) (by decide +kernel)
set_option maxRecDepth 20000 in
theorem w_347 : Cond.instanceMethod ⟨"java/lang/String", "coder", "()B"⟩ ∈ TB := tb_in 347 (by decide +kernel) (by decide +kernel)
set_option maxRecDepth 20000 in
theorem w_348 : Cond.selects "java/lang/String" ⟨"java/lang/String", "coder", "()B"⟩ ⟨"java/lang/String", "coder", "()B"⟩ ∈ TB := tb_in 348 (by decide +kernel) (by decide +kernel)
set_option maxRecDepth 20000 in
theorem w_366 : Cond.fieldLink "java/lang/String" 1053 "jdk/internal/util/Preconditions" "SIOOBE_FORMATTER" "Ljava/util/function/BiFunction;" ∈ TB := tb_in 366 (by decide +kernel) (by decide +kernel)
set_option maxRecDepth 20000 in
theorem w_45 : Cond.initialized "jdk/internal/util/Preconditions" ∈ TB := tb_in 45 (by decide +kernel) (by decide +kernel)
set_option maxRecDepth 20000 in
theorem w_370 : Cond.code ⟨"jdk/internal/util/Preconditions", "checkIndex", "(IILjava/util/function/BiFunction;)I"⟩ prog_21_method_11_code 3 (some .int) ∈ TB := tb_in 370 (by decide +kernel) (by decide +kernel)
set_option maxRecDepth 20000 in
theorem w_368 : Cond.methodLink "java/lang/String" 1059 ⟨"jdk/internal/util/Preconditions", "checkIndex", "(IILjava/util/function/BiFunction;)I"⟩ ∈ TB := tb_in 368 (by decide +kernel) (by decide +kernel)
set_option maxRecDepth 20000 in
theorem w_369 : Cond.static ⟨"jdk/internal/util/Preconditions", "checkIndex", "(IILjava/util/function/BiFunction;)I"⟩ ∈ TB := tb_in 369 (by decide +kernel) (by decide +kernel)
set_option maxRecDepth 20000 in
theorem w_365 : Cond.code ⟨"java/lang/String", "checkIndex", "(II)V"⟩ prog_15_method_155_code 2 none ∈ TB := tb_in 365 (by decide +kernel) (by decide +kernel)
set_option maxRecDepth 20000 in
theorem w_363 : Cond.methodLink "java/lang/StringLatin1" 9 ⟨"java/lang/String", "checkIndex", "(II)V"⟩ ∈ TB := tb_in 363 (by decide +kernel) (by decide +kernel)
set_option maxRecDepth 20000 in
theorem w_364 : Cond.static ⟨"java/lang/String", "checkIndex", "(II)V"⟩ ∈ TB := tb_in 364 (by decide +kernel) (by decide +kernel)
set_option maxRecDepth 20000 in
theorem w_359 : Cond.code ⟨"java/lang/String", "isLatin1", "()Z"⟩ prog_15_method_154_code 1 (some .boolean) ∈ TB := tb_in 359 (by decide +kernel) (by decide +kernel)
set_option maxRecDepth 20000 in
theorem w_356 : Cond.methodLink "java/lang/String" 492 ⟨"java/lang/String", "isLatin1", "()Z"⟩ ∈ TB := tb_in 356 (by decide +kernel) (by decide +kernel)
set_option maxRecDepth 20000 in
theorem w_357 : Cond.instanceMethod ⟨"java/lang/String", "isLatin1", "()Z"⟩ ∈ TB := tb_in 357 (by decide +kernel) (by decide +kernel)
set_option maxRecDepth 20000 in
theorem w_358 : Cond.selects "java/lang/String" ⟨"java/lang/String", "isLatin1", "()Z"⟩ ⟨"java/lang/String", "isLatin1", "()Z"⟩ ∈ TB := tb_in 358 (by decide +kernel) (by decide +kernel)
set_option maxRecDepth 20000 in
theorem w_44 : Cond.initialized "java/lang/StringLatin1" ∈ TB := tb_in 44 (by decide +kernel) (by decide +kernel)
set_option maxRecDepth 20000 in
theorem w_362 : Cond.code ⟨"java/lang/StringLatin1", "charAt", "([BI)C"⟩ prog_16_method_2_code 2 (some .char) ∈ TB := tb_in 362 (by decide +kernel) (by decide +kernel)
set_option maxRecDepth 20000 in
theorem w_360 : Cond.methodLink "java/lang/String" 495 ⟨"java/lang/StringLatin1", "charAt", "([BI)C"⟩ ∈ TB := tb_in 360 (by decide +kernel) (by decide +kernel)
set_option maxRecDepth 20000 in
theorem w_361 : Cond.static ⟨"java/lang/StringLatin1", "charAt", "([BI)C"⟩ ∈ TB := tb_in 361 (by decide +kernel) (by decide +kernel)
set_option maxRecDepth 20000 in
theorem w_345 : Cond.code ⟨"java/lang/String", "length", "()I"⟩ prog_15_method_54_code 1 (some .int) ∈ TB := tb_in 345 (by decide +kernel) (by decide +kernel)
set_option maxRecDepth 20000 in
theorem w_342 : Cond.methodLink "VaryStore$Row" 25 ⟨"java/lang/String", "length", "()I"⟩ ∈ TB := tb_in 342 (by decide +kernel) (by decide +kernel)
set_option maxRecDepth 20000 in
theorem w_343 : Cond.instanceMethod ⟨"java/lang/String", "length", "()I"⟩ ∈ TB := tb_in 343 (by decide +kernel) (by decide +kernel)
set_option maxRecDepth 20000 in
theorem w_344 : Cond.selects "java/lang/String" ⟨"java/lang/String", "length", "()I"⟩ ⟨"java/lang/String", "length", "()I"⟩ ∈ TB := tb_in 344 (by decide +kernel) (by decide +kernel)
set_option maxRecDepth 20000 in
theorem w_355 : Cond.code ⟨"java/lang/String", "charAt", "(I)C"⟩ prog_15_method_56_code 2 (some .char) ∈ TB := tb_in 355 (by decide +kernel) (by decide +kernel)
set_option maxRecDepth 20000 in
theorem w_352 : Cond.methodLink "VaryStore$Row" 30 ⟨"java/lang/String", "charAt", "(I)C"⟩ ∈ TB := tb_in 352 (by decide +kernel) (by decide +kernel)
set_option maxRecDepth 20000 in
theorem w_353 : Cond.instanceMethod ⟨"java/lang/String", "charAt", "(I)C"⟩ ∈ TB := tb_in 353 (by decide +kernel) (by decide +kernel)
set_option maxRecDepth 20000 in
theorem w_354 : Cond.selects "java/lang/String" ⟨"java/lang/String", "charAt", "(I)C"⟩ ⟨"java/lang/String", "charAt", "(I)C"⟩ ∈ TB := tb_in 354 (by decide +kernel) (by decide +kernel)
set_option maxRecDepth 20000 in
theorem w_185 : Cond.code ⟨"VaryStore$Row", "add", "(C)V"⟩ prog_3_method_3_code 2 none ∈ TB := tb_in 185 (by decide +kernel) (by decide +kernel)
set_option maxRecDepth 20000 in
theorem w_390 : Cond.methodLink "VaryStore$Row" 34 ⟨"VaryStore$Row", "add", "(C)V"⟩ ∈ TB := tb_in 390 (by decide +kernel) (by decide +kernel)
set_option maxRecDepth 20000 in
theorem w_183 : Cond.instanceMethod ⟨"VaryStore$Row", "add", "(C)V"⟩ ∈ TB := tb_in 183 (by decide +kernel) (by decide +kernel)
set_option maxRecDepth 20000 in
theorem w_184 : Cond.selects "VaryStore$Row" ⟨"VaryStore$Row", "add", "(C)V"⟩ ⟨"VaryStore$Row", "add", "(C)V"⟩ ∈ TB := tb_in 184 (by decide +kernel) (by decide +kernel)
set_option maxRecDepth 20000 in
theorem w_260 : Cond.code ⟨"VaryStore$Row", "clear", "()V"⟩ prog_3_method_2_code 1 none ∈ TB := tb_in 260 (by decide +kernel) (by decide +kernel)
set_option maxRecDepth 20000 in
theorem w_395 : Cond.methodLink "VaryStore$Text" 61 ⟨"VaryStore$Row", "clear", "()V"⟩ ∈ TB := tb_in 395 (by decide +kernel) (by decide +kernel)
set_option maxRecDepth 20000 in
theorem w_258 : Cond.instanceMethod ⟨"VaryStore$Row", "clear", "()V"⟩ ∈ TB := tb_in 258 (by decide +kernel) (by decide +kernel)
set_option maxRecDepth 20000 in
theorem w_259 : Cond.selects "VaryStore$Row" ⟨"VaryStore$Row", "clear", "()V"⟩ ⟨"VaryStore$Row", "clear", "()V"⟩ ∈ TB := tb_in 259 (by decide +kernel) (by decide +kernel)
set_option maxRecDepth 20000 in
theorem w_405 : Cond.code ⟨"VaryStore$Row", "skipBlanks", "(II)I"⟩ prog_3_method_11_code 4 (some .int) ∈ TB := tb_in 405 (by decide +kernel) (by decide +kernel)
set_option maxRecDepth 20000 in
theorem w_424 : Cond.methodLink "VaryStore$Items" 40 ⟨"VaryStore$Row", "skipBlanks", "(II)I"⟩ ∈ TB := tb_in 424 (by decide +kernel) (by decide +kernel)
set_option maxRecDepth 20000 in
theorem w_403 : Cond.instanceMethod ⟨"VaryStore$Row", "skipBlanks", "(II)I"⟩ ∈ TB := tb_in 403 (by decide +kernel) (by decide +kernel)
set_option maxRecDepth 20000 in
theorem w_404 : Cond.selects "VaryStore$Row" ⟨"VaryStore$Row", "skipBlanks", "(II)I"⟩ ⟨"VaryStore$Row", "skipBlanks", "(II)I"⟩ ∈ TB := tb_in 404 (by decide +kernel) (by decide +kernel)
set_option maxRecDepth 20000 in
theorem w_409 : Cond.code ⟨"VaryStore$Row", "skipBlanksBack", "(II)I"⟩ prog_3_method_12_code 4 (some .int) ∈ TB := tb_in 409 (by decide +kernel) (by decide +kernel)
set_option maxRecDepth 20000 in
theorem w_425 : Cond.methodLink "VaryStore$Items" 44 ⟨"VaryStore$Row", "skipBlanksBack", "(II)I"⟩ ∈ TB := tb_in 425 (by decide +kernel) (by decide +kernel)
set_option maxRecDepth 20000 in
theorem w_407 : Cond.instanceMethod ⟨"VaryStore$Row", "skipBlanksBack", "(II)I"⟩ ∈ TB := tb_in 407 (by decide +kernel) (by decide +kernel)
set_option maxRecDepth 20000 in
theorem w_408 : Cond.selects "VaryStore$Row" ⟨"VaryStore$Row", "skipBlanksBack", "(II)I"⟩ ⟨"VaryStore$Row", "skipBlanksBack", "(II)I"⟩ ∈ TB := tb_in 408 (by decide +kernel) (by decide +kernel)
set_option maxRecDepth 20000 in
theorem w_418 : Cond.methodLink "VaryStore$Items" 26 ⟨"VaryStore$Row", "clear", "()V"⟩ ∈ TB := tb_in 418 (by decide +kernel) (by decide +kernel)
set_option maxRecDepth 20000 in
theorem w_67 : Cond.fieldLinkNest "VaryStore$Items" 29 "VaryStore$Row" "length" "I" "VaryStore"  ∈ NB := nb_in 67 (by decide +kernel) (by decide +kernel)
set_option maxRecDepth 20000 in
theorem w_423 : Cond.code ⟨"VaryStore$Items", "addItem", "(LVaryStore$Row;II)V"⟩ prog_2_method_3_code 6 none ∈ TB := tb_in 423 (by decide +kernel) (by decide +kernel)
set_option maxRecDepth 20000 in
theorem w_420 : Cond.methodLink "VaryStore$Items" 36 ⟨"VaryStore$Items", "addItem", "(LVaryStore$Row;II)V"⟩ ∈ TB := tb_in 420 (by decide +kernel) (by decide +kernel)
set_option maxRecDepth 20000 in
theorem w_422 : Cond.instanceMethod ⟨"VaryStore$Items", "addItem", "(LVaryStore$Row;II)V"⟩ ∈ TB := tb_in 422 (by decide +kernel) (by decide +kernel)
set_option maxRecDepth 20000 in
theorem w_6 : Cond.selects "VaryStore$Items" ⟨"VaryStore$Items", "addItem", "(LVaryStore$Row;II)V"⟩ ⟨"VaryStore$Items", "addItem", "(LVaryStore$Row;II)V"⟩ ∈ TB := tb_in 6 (by decide +kernel) (by decide +kernel)
set_option maxRecDepth 20000 in
theorem w_469 : Cond.code ⟨"VaryStore$Items", "said", "(Ljava/lang/String;)I"⟩ prog_2_method_11_code 5 (some .int) ∈ TB := tb_in 469 (by decide +kernel) (by decide +kernel)
set_option maxRecDepth 20000 in
theorem w_490 : Cond.methodLink "VaryStore$Items" 78 ⟨"VaryStore$Items", "said", "(Ljava/lang/String;)I"⟩ ∈ TB := tb_in 490 (by decide +kernel) (by decide +kernel)
set_option maxRecDepth 20000 in
theorem w_467 : Cond.instanceMethod ⟨"VaryStore$Items", "said", "(Ljava/lang/String;)I"⟩ ∈ TB := tb_in 467 (by decide +kernel) (by decide +kernel)
set_option maxRecDepth 20000 in
theorem w_468 : Cond.selects "VaryStore$Items" ⟨"VaryStore$Items", "said", "(Ljava/lang/String;)I"⟩ ⟨"VaryStore$Items", "said", "(Ljava/lang/String;)I"⟩ ∈ TB := tb_in 468 (by decide +kernel) (by decide +kernel)
set_option maxRecDepth 20000 in
theorem w_341 : Cond.code ⟨"VaryStore$Row", "set", "(Ljava/lang/String;)V"⟩ prog_3_method_5_code 3 none ∈ TB := tb_in 341 (by decide +kernel) (by decide +kernel)
set_option maxRecDepth 20000 in
theorem w_338 : Cond.methodLink "VaryStore" 212 ⟨"VaryStore$Row", "set", "(Ljava/lang/String;)V"⟩ ∈ TB := tb_in 338 (by decide +kernel) (by decide +kernel)
set_option maxRecDepth 20000 in
theorem w_339 : Cond.instanceMethod ⟨"VaryStore$Row", "set", "(Ljava/lang/String;)V"⟩ ∈ TB := tb_in 339 (by decide +kernel) (by decide +kernel)
set_option maxRecDepth 20000 in
theorem w_340 : Cond.selects "VaryStore$Row" ⟨"VaryStore$Row", "set", "(Ljava/lang/String;)V"⟩ ⟨"VaryStore$Row", "set", "(Ljava/lang/String;)V"⟩ ∈ TB := tb_in 340 (by decide +kernel) (by decide +kernel)
set_option maxRecDepth 20000 in
theorem w_394 : Cond.code ⟨"VaryStore$Text", "gather", "(LVaryStore$Row;LVaryStore$Row;)Z"⟩ prog_5_method_5_code 6 (some .boolean) ∈ TB := tb_in 394 (by decide +kernel) (by decide +kernel)
set_option maxRecDepth 20000 in
theorem w_391 : Cond.methodLink "VaryStore" 215 ⟨"VaryStore$Text", "gather", "(LVaryStore$Row;LVaryStore$Row;)Z"⟩ ∈ TB := tb_in 391 (by decide +kernel) (by decide +kernel)
set_option maxRecDepth 20000 in
theorem w_392 : Cond.instanceMethod ⟨"VaryStore$Text", "gather", "(LVaryStore$Row;LVaryStore$Row;)Z"⟩ ∈ TB := tb_in 392 (by decide +kernel) (by decide +kernel)
set_option maxRecDepth 20000 in
theorem w_393 : Cond.selects "VaryStore$Text" ⟨"VaryStore$Text", "gather", "(LVaryStore$Row;LVaryStore$Row;)Z"⟩ ⟨"VaryStore$Text", "gather", "(LVaryStore$Row;LVaryStore$Row;)Z"⟩ ∈ TB := tb_in 393 (by decide +kernel) (by decide +kernel)
set_option maxRecDepth 20000 in
theorem w_30 : Cond.initialized "VaryStore" ∈ TB := tb_in 30 (by decide +kernel) (by decide +kernel)
set_option maxRecDepth 20000 in
theorem w_337 : Cond.code ⟨"VaryStore", "gather", "(LVaryStore$Text;Ljava/lang/String;)Z"⟩ prog_1_method_15_code 3 (some .boolean) ∈ TB := tb_in 337 (by decide +kernel) (by decide +kernel)
set_option maxRecDepth 20000 in
theorem w_334 : Cond.methodLink "VaryStore" 145 ⟨"VaryStore", "gather", "(LVaryStore$Text;Ljava/lang/String;)Z"⟩ ∈ TB := tb_in 334 (by decide +kernel) (by decide +kernel)
set_option maxRecDepth 20000 in
theorem w_336 : Cond.instanceMethod ⟨"VaryStore", "gather", "(LVaryStore$Text;Ljava/lang/String;)Z"⟩ ∈ TB := tb_in 336 (by decide +kernel) (by decide +kernel)
set_option maxRecDepth 20000 in
theorem w_5 : Cond.selects "VaryStore" ⟨"VaryStore", "gather", "(LVaryStore$Text;Ljava/lang/String;)Z"⟩ ⟨"VaryStore", "gather", "(LVaryStore$Text;Ljava/lang/String;)Z"⟩ ∈ TB := tb_in 5 (by decide +kernel) (by decide +kernel)
set_option maxRecDepth 20000 in
theorem w_417 : Cond.code ⟨"VaryStore$Items", "cut", "(LVaryStore$Row;)V"⟩ prog_2_method_2_code 4 none ∈ TB := tb_in 417 (by decide +kernel) (by decide +kernel)
set_option maxRecDepth 20000 in
theorem w_414 : Cond.methodLink "VaryStore" 218 ⟨"VaryStore$Items", "cut", "(LVaryStore$Row;)V"⟩ ∈ TB := tb_in 414 (by decide +kernel) (by decide +kernel)
set_option maxRecDepth 20000 in
theorem w_415 : Cond.instanceMethod ⟨"VaryStore$Items", "cut", "(LVaryStore$Row;)V"⟩ ∈ TB := tb_in 415 (by decide +kernel) (by decide +kernel)
set_option maxRecDepth 20000 in
theorem w_416 : Cond.selects "VaryStore$Items" ⟨"VaryStore$Items", "cut", "(LVaryStore$Row;)V"⟩ ⟨"VaryStore$Items", "cut", "(LVaryStore$Row;)V"⟩ ∈ TB := tb_in 416 (by decide +kernel) (by decide +kernel)
set_option maxRecDepth 20000 in
theorem w_66 : Cond.fieldLinkNest "VaryStore" 59 "VaryStore$Row" "length" "I" "VaryStore"  ∈ NB := nb_in 66 (by decide +kernel) (by decide +kernel)
set_option maxRecDepth 20000 in
theorem w_484 : Cond.code ⟨"VaryStore$Row", "number", "(II)I"⟩ prog_3_method_13_code 5 (some .int) ∈ TB := tb_in 484 (by decide +kernel) (by decide +kernel)
set_option maxRecDepth 20000 in
theorem w_616 : Cond.methodLink "VaryStore" 222 ⟨"VaryStore$Row", "number", "(II)I"⟩ ∈ TB := tb_in 616 (by decide +kernel) (by decide +kernel)
set_option maxRecDepth 20000 in
theorem w_482 : Cond.instanceMethod ⟨"VaryStore$Row", "number", "(II)I"⟩ ∈ TB := tb_in 482 (by decide +kernel) (by decide +kernel)
set_option maxRecDepth 20000 in
theorem w_483 : Cond.selects "VaryStore$Row" ⟨"VaryStore$Row", "number", "(II)I"⟩ ⟨"VaryStore$Row", "number", "(II)I"⟩ ∈ TB := tb_in 483 (by decide +kernel) (by decide +kernel)
set_option maxRecDepth 20000 in
theorem w_85 : Cond.fieldLinkNest "VaryStore" 133 "VaryStore$Shelf" "count" "I" "VaryStore"  ∈ NB := nb_in 85 (by decide +kernel) (by decide +kernel)
set_option maxRecDepth 20000 in
theorem w_229 : Cond.code ⟨"VaryStore$Row", "copy", "(LVaryStore$Row;)V"⟩ prog_3_method_6_code 2 none ∈ TB := tb_in 229 (by decide +kernel) (by decide +kernel)
set_option maxRecDepth 20000 in
theorem w_226 : Cond.methodLink "VaryStore$Text" 32 ⟨"VaryStore$Row", "copy", "(LVaryStore$Row;)V"⟩ ∈ TB := tb_in 226 (by decide +kernel) (by decide +kernel)
set_option maxRecDepth 20000 in
theorem w_227 : Cond.instanceMethod ⟨"VaryStore$Row", "copy", "(LVaryStore$Row;)V"⟩ ∈ TB := tb_in 227 (by decide +kernel) (by decide +kernel)
set_option maxRecDepth 20000 in
theorem w_228 : Cond.selects "VaryStore$Row" ⟨"VaryStore$Row", "copy", "(LVaryStore$Row;)V"⟩ ⟨"VaryStore$Row", "copy", "(LVaryStore$Row;)V"⟩ ∈ TB := tb_in 228 (by decide +kernel) (by decide +kernel)
set_option maxRecDepth 20000 in
theorem w_68 : Cond.fieldLinkNest "VaryStore$Text" 42 "VaryStore$Row" "length" "I" "VaryStore"  ∈ NB := nb_in 68 (by decide +kernel) (by decide +kernel)
set_option maxRecDepth 20000 in
theorem w_225 : Cond.code ⟨"VaryStore$Text", "read", "(LVaryStore$Row;)I"⟩ prog_5_method_3_code 4 (some .int) ∈ TB := tb_in 225 (by decide +kernel) (by decide +kernel)
set_option maxRecDepth 20000 in
theorem w_222 : Cond.methodLink "VaryStore" 201 ⟨"VaryStore$Text", "read", "(LVaryStore$Row;)I"⟩ ∈ TB := tb_in 222 (by decide +kernel) (by decide +kernel)
set_option maxRecDepth 20000 in
theorem w_223 : Cond.instanceMethod ⟨"VaryStore$Text", "read", "(LVaryStore$Row;)I"⟩ ∈ TB := tb_in 223 (by decide +kernel) (by decide +kernel)
set_option maxRecDepth 20000 in
theorem w_224 : Cond.selects "VaryStore$Text" ⟨"VaryStore$Text", "read", "(LVaryStore$Row;)I"⟩ ⟨"VaryStore$Text", "read", "(LVaryStore$Row;)I"⟩ ∈ TB := tb_in 224 (by decide +kernel) (by decide +kernel)
set_option maxRecDepth 20000 in
theorem w_257 : Cond.methodLink "VaryStore" 205 ⟨"VaryStore$Row", "clear", "()V"⟩ ∈ TB := tb_in 257 (by decide +kernel) (by decide +kernel)
set_option maxRecDepth 20000 in
theorem w_261 : Cond.classLink "VaryStore" 163 "java/lang/IllegalArgumentException" ∈ TB := tb_in 261 (by decide +kernel) (by decide +kernel)
set_option maxRecDepth 20000 in
theorem w_42 : Cond.initialized "java/lang/IllegalArgumentException" ∈ TB := tb_in 42 (by decide +kernel) (by decide +kernel)
set_option maxRecDepth 20000 in
theorem w_221 : Cond.code ⟨"VaryStore", "readTape", "(I)V"⟩ prog_1_method_14_code 2 none ∈ TB := tb_in 221 (by decide +kernel) (by decide +kernel)
set_option maxRecDepth 20000 in
theorem w_218 : Cond.methodLink "VaryStore" 74 ⟨"VaryStore", "readTape", "(I)V"⟩ ∈ TB := tb_in 218 (by decide +kernel) (by decide +kernel)
set_option maxRecDepth 20000 in
theorem w_220 : Cond.instanceMethod ⟨"VaryStore", "readTape", "(I)V"⟩ ∈ TB := tb_in 220 (by decide +kernel) (by decide +kernel)
set_option maxRecDepth 20000 in
theorem w_1 : Cond.selects "VaryStore" ⟨"VaryStore", "readTape", "(I)V"⟩ ⟨"VaryStore", "readTape", "(I)V"⟩ ∈ TB := tb_in 1 (by decide +kernel) (by decide +kernel)
set_option maxRecDepth 20000 in
theorem w_333 : Cond.code ⟨"VaryStore", "cutList", "(LVaryStore$Text;Ljava/lang/String;LVaryStore$Items;)Z"⟩ prog_1_method_16_code 5 (some .boolean) ∈ TB := tb_in 333 (by decide +kernel) (by decide +kernel)
set_option maxRecDepth 20000 in
theorem w_330 : Cond.methodLink "VaryStore" 80 ⟨"VaryStore", "cutList", "(LVaryStore$Text;Ljava/lang/String;LVaryStore$Items;)Z"⟩ ∈ TB := tb_in 330 (by decide +kernel) (by decide +kernel)
set_option maxRecDepth 20000 in
theorem w_332 : Cond.instanceMethod ⟨"VaryStore", "cutList", "(LVaryStore$Text;Ljava/lang/String;LVaryStore$Items;)Z"⟩ ∈ TB := tb_in 332 (by decide +kernel) (by decide +kernel)
set_option maxRecDepth 20000 in
theorem w_4 : Cond.selects "VaryStore" ⟨"VaryStore", "cutList", "(LVaryStore$Text;Ljava/lang/String;LVaryStore$Items;)Z"⟩ ⟨"VaryStore", "cutList", "(LVaryStore$Text;Ljava/lang/String;LVaryStore$Items;)Z"⟩ ∈ TB := tb_in 4 (by decide +kernel) (by decide +kernel)
set_option maxRecDepth 20000 in
theorem w_431 : Cond.code ⟨"VaryStore", "placeOfTheOne", "(I)I"⟩ prog_1_method_22_code 4 (some .int) ∈ TB := tb_in 431 (by decide +kernel) (by decide +kernel)
set_option maxRecDepth 20000 in
theorem w_428 : Cond.methodLink "VaryStore" 84 ⟨"VaryStore", "placeOfTheOne", "(I)I"⟩ ∈ TB := tb_in 428 (by decide +kernel) (by decide +kernel)
set_option maxRecDepth 20000 in
theorem w_430 : Cond.instanceMethod ⟨"VaryStore", "placeOfTheOne", "(I)I"⟩ ∈ TB := tb_in 430 (by decide +kernel) (by decide +kernel)
set_option maxRecDepth 20000 in
theorem w_7 : Cond.selects "VaryStore" ⟨"VaryStore", "placeOfTheOne", "(I)I"⟩ ⟨"VaryStore", "placeOfTheOne", "(I)I"⟩ ∈ TB := tb_in 7 (by decide +kernel) (by decide +kernel)
set_option maxRecDepth 20000 in
theorem w_197 : Cond.code ⟨"VaryStore$Shelf", "at", "(I)LVaryStore$Thing;"⟩ prog_4_method_2_code 2 (some (.object "VaryStore$Thing")) ∈ TB := tb_in 197 (by decide +kernel) (by decide +kernel)
set_option maxRecDepth 20000 in
theorem w_194 : Cond.methodLink "VaryStore" 88 ⟨"VaryStore$Shelf", "at", "(I)LVaryStore$Thing;"⟩ ∈ TB := tb_in 194 (by decide +kernel) (by decide +kernel)
set_option maxRecDepth 20000 in
theorem w_195 : Cond.instanceMethod ⟨"VaryStore$Shelf", "at", "(I)LVaryStore$Thing;"⟩ ∈ TB := tb_in 195 (by decide +kernel) (by decide +kernel)
set_option maxRecDepth 20000 in
theorem w_196 : Cond.selects "VaryStore$Shelf" ⟨"VaryStore$Shelf", "at", "(I)LVaryStore$Thing;"⟩ ⟨"VaryStore$Shelf", "at", "(I)LVaryStore$Thing;"⟩ ∈ TB := tb_in 196 (by decide +kernel) (by decide +kernel)
set_option maxRecDepth 20000 in
theorem w_489 : Cond.code ⟨"VaryStore$Items", "has", "(Ljava/lang/String;)Z"⟩ prog_2_method_10_code 2 (some .boolean) ∈ TB := tb_in 489 (by decide +kernel) (by decide +kernel)
set_option maxRecDepth 20000 in
theorem w_486 : Cond.methodLink "VaryStore" 102 ⟨"VaryStore$Items", "has", "(Ljava/lang/String;)Z"⟩ ∈ TB := tb_in 486 (by decide +kernel) (by decide +kernel)
set_option maxRecDepth 20000 in
theorem w_487 : Cond.instanceMethod ⟨"VaryStore$Items", "has", "(Ljava/lang/String;)Z"⟩ ∈ TB := tb_in 487 (by decide +kernel) (by decide +kernel)
set_option maxRecDepth 20000 in
theorem w_488 : Cond.selects "VaryStore$Items" ⟨"VaryStore$Items", "has", "(Ljava/lang/String;)Z"⟩ ⟨"VaryStore$Items", "has", "(Ljava/lang/String;)Z"⟩ ∈ TB := tb_in 488 (by decide +kernel) (by decide +kernel)
set_option maxRecDepth 20000 in
theorem w_664 : Cond.constant "VaryStore" 161 100000 ∈ TB := tb_in 664 (by decide +kernel) (by decide +kernel)
set_option maxRecDepth 20000 in
theorem w_665 : Cond.constant "VaryStore" 162 1000000000 ∈ TB := tb_in 665 (by decide +kernel) (by decide +kernel)
set_option maxRecDepth 20000 in
theorem w_585 : Cond.methodLink "VaryStore$Text" 36 arraycopyName ∈ TB := tb_in 585 (by decide +kernel) (by decide +kernel)
set_option maxRecDepth 20000 in
theorem w_254 : Cond.methodLink "VaryStore$Row" 45 Lib.Math.max.name ∈ TB := tb_in 254 (by decide +kernel) (by decide +kernel)
set_option maxRecDepth 20000 in
theorem w_255 : Cond.static Lib.Math.max.name ∈ TB := tb_in 255 (by decide +kernel) (by decide +kernel)
set_option maxRecDepth 20000 in
theorem w_38 : Cond.initialized "java/lang/Math" ∈ TB := tb_in 38 (by decide +kernel) (by decide +kernel)
set_option maxRecDepth 20000 in
theorem w_256 : Cond.code Lib.Math.max.name Lib.Math.max.code 2 (some .int) ∈ TB := tb_in 256 (by decide +kernel) (by decide +kernel)
set_option maxRecDepth 20000 in
theorem w_253 : Cond.code ⟨"VaryStore$Row", "makeSmall", "(II)V"⟩ prog_3_method_10_code 4 none ∈ TB := tb_in 253 (by decide +kernel) (by decide +kernel)
set_option maxRecDepth 20000 in
theorem w_593 : Cond.methodLink "VaryStore$Items" 61 ⟨"VaryStore$Row", "makeSmall", "(II)V"⟩ ∈ TB := tb_in 593 (by decide +kernel) (by decide +kernel)
set_option maxRecDepth 20000 in
theorem w_251 : Cond.instanceMethod ⟨"VaryStore$Row", "makeSmall", "(II)V"⟩ ∈ TB := tb_in 251 (by decide +kernel) (by decide +kernel)
set_option maxRecDepth 20000 in
theorem w_252 : Cond.selects "VaryStore$Row" ⟨"VaryStore$Row", "makeSmall", "(II)V"⟩ ⟨"VaryStore$Row", "makeSmall", "(II)V"⟩ ∈ TB := tb_in 252 (by decide +kernel) (by decide +kernel)
set_option maxRecDepth 20000 in
theorem w_514 : Cond.instantiable "VaryStore$Thing" 13 ∈ TB := tb_in 514 (by decide +kernel) (by decide +kernel)
set_option maxRecDepth 20000 in
theorem w_47 : Cond.initialized "VaryStore$Thing" ∈ TB := tb_in 47 (by decide +kernel) (by decide +kernel)
set_option maxRecDepth 20000 in
theorem w_517 : Cond.code ⟨"VaryStore$Thing", "<init>", "()V"⟩ prog_6_method_1_code 1 none ∈ TB := tb_in 517 (by decide +kernel) (by decide +kernel)
set_option maxRecDepth 20000 in
theorem w_515 : Cond.methodLinkNest "VaryStore$Shelf" 24 ⟨"VaryStore$Thing", "<init>", "()V"⟩ "VaryStore" ∈ NB := nb_in 515 (by decide +kernel) (by decide +kernel)
set_option maxRecDepth 20000 in
theorem w_516 : Cond.instanceMethod ⟨"VaryStore$Thing", "<init>", "()V"⟩ ∈ TB := tb_in 516 (by decide +kernel) (by decide +kernel)
set_option maxRecDepth 20000 in
theorem w_599 : Cond.methodLink "VaryStore$Thing" 66 ⟨"VaryStore$Items", "said", "(Ljava/lang/String;)I"⟩ ∈ TB := tb_in 599 (by decide +kernel) (by decide +kernel)
set_option maxRecDepth 20000 in
theorem w_602 : Cond.methodLink "VaryStore$Thing" 74 ⟨"VaryStore$Items", "has", "(Ljava/lang/String;)Z"⟩ ∈ TB := tb_in 602 (by decide +kernel) (by decide +kernel)
set_option maxRecDepth 20000 in
theorem w_532 : Cond.fieldLinkNest "VaryStore" 158 "VaryStore$Thing" "path" "I" "VaryStore"  ∈ NB := nb_in 532 (by decide +kernel) (by decide +kernel)
set_option maxRecDepth 20000 in
theorem w_530 : Cond.fieldLinkNest "VaryStore" 226 "VaryStore$Thing" "request" "LVaryStore$Text;" "VaryStore"  ∈ NB := nb_in 530 (by decide +kernel) (by decide +kernel)
set_option maxRecDepth 20000 in
theorem w_584 : Cond.code ⟨"VaryStore$Text", "copy", "(LVaryStore$Text;)V"⟩ prog_5_method_2_code 2 none ∈ TB := tb_in 584 (by decide +kernel) (by decide +kernel)
set_option maxRecDepth 20000 in
theorem w_581 : Cond.methodLink "VaryStore" 227 ⟨"VaryStore$Text", "copy", "(LVaryStore$Text;)V"⟩ ∈ TB := tb_in 581 (by decide +kernel) (by decide +kernel)
set_option maxRecDepth 20000 in
theorem w_582 : Cond.instanceMethod ⟨"VaryStore$Text", "copy", "(LVaryStore$Text;)V"⟩ ∈ TB := tb_in 582 (by decide +kernel) (by decide +kernel)
set_option maxRecDepth 20000 in
theorem w_583 : Cond.selects "VaryStore$Text" ⟨"VaryStore$Text", "copy", "(LVaryStore$Text;)V"⟩ ⟨"VaryStore$Text", "copy", "(LVaryStore$Text;)V"⟩ ∈ TB := tb_in 583 (by decide +kernel) (by decide +kernel)
set_option maxRecDepth 20000 in
theorem w_526 : Cond.fieldLinkNest "VaryStore" 149 "VaryStore$Thing" "etag" "LVaryStore$Row;" "VaryStore"  ∈ NB := nb_in 526 (by decide +kernel) (by decide +kernel)
set_option maxRecDepth 20000 in
theorem w_587 : Cond.methodLink "VaryStore" 231 ⟨"VaryStore$Row", "copy", "(LVaryStore$Row;)V"⟩ ∈ TB := tb_in 587 (by decide +kernel) (by decide +kernel)
set_option maxRecDepth 20000 in
theorem w_528 : Cond.fieldLinkNest "VaryStore" 184 "VaryStore$Thing" "vary" "LVaryStore$Items;" "VaryStore"  ∈ NB := nb_in 528 (by decide +kernel) (by decide +kernel)
set_option maxRecDepth 20000 in
theorem w_592 : Cond.code ⟨"VaryStore$Items", "makeSmall", "()V"⟩ prog_2_method_7_code 1 none ∈ TB := tb_in 592 (by decide +kernel) (by decide +kernel)
set_option maxRecDepth 20000 in
theorem w_589 : Cond.methodLink "VaryStore" 234 ⟨"VaryStore$Items", "makeSmall", "()V"⟩ ∈ TB := tb_in 589 (by decide +kernel) (by decide +kernel)
set_option maxRecDepth 20000 in
theorem w_590 : Cond.instanceMethod ⟨"VaryStore$Items", "makeSmall", "()V"⟩ ∈ TB := tb_in 590 (by decide +kernel) (by decide +kernel)
set_option maxRecDepth 20000 in
theorem w_591 : Cond.selects "VaryStore$Items" ⟨"VaryStore$Items", "makeSmall", "()V"⟩ ⟨"VaryStore$Items", "makeSmall", "()V"⟩ ∈ TB := tb_in 591 (by decide +kernel) (by decide +kernel)
set_option maxRecDepth 20000 in
theorem w_615 : Cond.code ⟨"VaryStore", "numberOf", "(Ljava/lang/String;)I"⟩ prog_1_method_17_code 2 (some .int) ∈ TB := tb_in 615 (by decide +kernel) (by decide +kernel)
set_option maxRecDepth 20000 in
theorem w_612 : Cond.methodLink "VaryStore" 239 ⟨"VaryStore", "numberOf", "(Ljava/lang/String;)I"⟩ ∈ TB := tb_in 612 (by decide +kernel) (by decide +kernel)
set_option maxRecDepth 20000 in
theorem w_614 : Cond.instanceMethod ⟨"VaryStore", "numberOf", "(Ljava/lang/String;)I"⟩ ∈ TB := tb_in 614 (by decide +kernel) (by decide +kernel)
set_option maxRecDepth 20000 in
theorem w_14 : Cond.selects "VaryStore" ⟨"VaryStore", "numberOf", "(Ljava/lang/String;)I"⟩ ⟨"VaryStore", "numberOf", "(Ljava/lang/String;)I"⟩ ∈ TB := tb_in 14 (by decide +kernel) (by decide +kernel)
set_option maxRecDepth 20000 in
theorem w_534 : Cond.fieldLinkNest "VaryStore" 245 "VaryStore$Thing" "sharedMaxAge" "I" "VaryStore"  ∈ NB := nb_in 534 (by decide +kernel) (by decide +kernel)
set_option maxRecDepth 20000 in
theorem w_536 : Cond.fieldLinkNest "VaryStore" 248 "VaryStore$Thing" "maxAge" "I" "VaryStore"  ∈ NB := nb_in 536 (by decide +kernel) (by decide +kernel)
set_option maxRecDepth 20000 in
theorem w_543 : Cond.fieldLinkNest "VaryStore" 178 "VaryStore$Thing" "life" "I" "VaryStore"  ∈ NB := nb_in 543 (by decide +kernel) (by decide +kernel)
set_option maxRecDepth 20000 in
theorem w_618 : Cond.methodLink "VaryStore" 251 Lib.Math.max.name ∈ TB := tb_in 618 (by decide +kernel) (by decide +kernel)
set_option maxRecDepth 20000 in
theorem w_545 : Cond.fieldLinkNest "VaryStore" 258 "VaryStore$Thing" "age" "I" "VaryStore"  ∈ NB := nb_in 545 (by decide +kernel) (by decide +kernel)
set_option maxRecDepth 20000 in
theorem w_547 : Cond.fieldLinkNest "VaryStore" 260 "VaryStore$Thing" "since" "I" "VaryStore"  ∈ NB := nb_in 547 (by decide +kernel) (by decide +kernel)
set_option maxRecDepth 20000 in
theorem w_538 : Cond.fieldLinkNest "VaryStore" 263 "VaryStore$Thing" "secret" "Z" "VaryStore"  ∈ NB := nb_in 538 (by decide +kernel) (by decide +kernel)
set_option maxRecDepth 20000 in
theorem w_632 : Cond.code ⟨"VaryStore$Items", "holds", "(Ljava/lang/String;)Z"⟩ prog_2_method_9_code 4 (some .boolean) ∈ TB := tb_in 632 (by decide +kernel) (by decide +kernel)
set_option maxRecDepth 20000 in
theorem w_629 : Cond.methodLink "VaryStore" 268 ⟨"VaryStore$Items", "holds", "(Ljava/lang/String;)Z"⟩ ∈ TB := tb_in 629 (by decide +kernel) (by decide +kernel)
set_option maxRecDepth 20000 in
theorem w_630 : Cond.instanceMethod ⟨"VaryStore$Items", "holds", "(Ljava/lang/String;)Z"⟩ ∈ TB := tb_in 630 (by decide +kernel) (by decide +kernel)
set_option maxRecDepth 20000 in
theorem w_631 : Cond.selects "VaryStore$Items" ⟨"VaryStore$Items", "holds", "(Ljava/lang/String;)Z"⟩ ⟨"VaryStore$Items", "holds", "(Ljava/lang/String;)Z"⟩ ∈ TB := tb_in 631 (by decide +kernel) (by decide +kernel)
set_option maxRecDepth 20000 in
theorem w_513 : Cond.code ⟨"VaryStore$Shelf", "spare", "()LVaryStore$Thing;"⟩ prog_4_method_3_code 2 (some (.object "VaryStore$Thing")) ∈ TB := tb_in 513 (by decide +kernel) (by decide +kernel)
set_option maxRecDepth 20000 in
theorem w_510 : Cond.methodLink "VaryStore" 106 ⟨"VaryStore$Shelf", "spare", "()LVaryStore$Thing;"⟩ ∈ TB := tb_in 510 (by decide +kernel) (by decide +kernel)
set_option maxRecDepth 20000 in
theorem w_511 : Cond.instanceMethod ⟨"VaryStore$Shelf", "spare", "()LVaryStore$Thing;"⟩ ∈ TB := tb_in 511 (by decide +kernel) (by decide +kernel)
set_option maxRecDepth 20000 in
theorem w_512 : Cond.selects "VaryStore$Shelf" ⟨"VaryStore$Shelf", "spare", "()LVaryStore$Thing;"⟩ ⟨"VaryStore$Shelf", "spare", "()LVaryStore$Thing;"⟩ ∈ TB := tb_in 512 (by decide +kernel) (by decide +kernel)
set_option maxRecDepth 20000 in
theorem w_580 : Cond.code ⟨"VaryStore", "describe", "(LVaryStore$Thing;I)V"⟩ prog_1_method_18_code 3 none ∈ TB := tb_in 580 (by decide +kernel) (by decide +kernel)
set_option maxRecDepth 20000 in
theorem w_577 : Cond.methodLink "VaryStore" 110 ⟨"VaryStore", "describe", "(LVaryStore$Thing;I)V"⟩ ∈ TB := tb_in 577 (by decide +kernel) (by decide +kernel)
set_option maxRecDepth 20000 in
theorem w_579 : Cond.instanceMethod ⟨"VaryStore", "describe", "(LVaryStore$Thing;I)V"⟩ ∈ TB := tb_in 579 (by decide +kernel) (by decide +kernel)
set_option maxRecDepth 20000 in
theorem w_12 : Cond.selects "VaryStore" ⟨"VaryStore", "describe", "(LVaryStore$Thing;I)V"⟩ ⟨"VaryStore", "describe", "(LVaryStore$Thing;I)V"⟩ ∈ TB := tb_in 12 (by decide +kernel) (by decide +kernel)
set_option maxRecDepth 20000 in
theorem w_597 : Cond.code ⟨"VaryStore$Thing", "obey", "(LVaryStore$Items;)V"⟩ prog_6_method_2_code 2 none ∈ TB := tb_in 597 (by decide +kernel) (by decide +kernel)
set_option maxRecDepth 20000 in
theorem w_594 : Cond.methodLink "VaryStore" 114 ⟨"VaryStore$Thing", "obey", "(LVaryStore$Items;)V"⟩ ∈ TB := tb_in 594 (by decide +kernel) (by decide +kernel)
set_option maxRecDepth 20000 in
theorem w_595 : Cond.instanceMethod ⟨"VaryStore$Thing", "obey", "(LVaryStore$Items;)V"⟩ ∈ TB := tb_in 595 (by decide +kernel) (by decide +kernel)
set_option maxRecDepth 20000 in
theorem w_596 : Cond.selects "VaryStore$Thing" ⟨"VaryStore$Thing", "obey", "(LVaryStore$Items;)V"⟩ ⟨"VaryStore$Thing", "obey", "(LVaryStore$Items;)V"⟩ ∈ TB := tb_in 596 (by decide +kernel) (by decide +kernel)
set_option maxRecDepth 20000 in
theorem w_610 : Cond.code ⟨"VaryStore", "startLife", "(LVaryStore$Thing;)V"⟩ prog_1_method_19_code 4 none ∈ TB := tb_in 610 (by decide +kernel) (by decide +kernel)
set_option maxRecDepth 20000 in
theorem w_607 : Cond.methodLink "VaryStore" 120 ⟨"VaryStore", "startLife", "(LVaryStore$Thing;)V"⟩ ∈ TB := tb_in 607 (by decide +kernel) (by decide +kernel)
set_option maxRecDepth 20000 in
theorem w_609 : Cond.instanceMethod ⟨"VaryStore", "startLife", "(LVaryStore$Thing;)V"⟩ ∈ TB := tb_in 609 (by decide +kernel) (by decide +kernel)
set_option maxRecDepth 20000 in
theorem w_13 : Cond.selects "VaryStore" ⟨"VaryStore", "startLife", "(LVaryStore$Thing;)V"⟩ ⟨"VaryStore", "startLife", "(LVaryStore$Thing;)V"⟩ ∈ TB := tb_in 13 (by decide +kernel) (by decide +kernel)
set_option maxRecDepth 20000 in
theorem w_623 : Cond.code ⟨"VaryStore", "placeOfSame", "(LVaryStore$Thing;)I"⟩ prog_1_method_21_code 4 (some .int) ∈ TB := tb_in 623 (by decide +kernel) (by decide +kernel)
set_option maxRecDepth 20000 in
theorem w_620 : Cond.methodLink "VaryStore" 123 ⟨"VaryStore", "placeOfSame", "(LVaryStore$Thing;)I"⟩ ∈ TB := tb_in 620 (by decide +kernel) (by decide +kernel)
set_option maxRecDepth 20000 in
theorem w_622 : Cond.instanceMethod ⟨"VaryStore", "placeOfSame", "(LVaryStore$Thing;)I"⟩ ∈ TB := tb_in 622 (by decide +kernel) (by decide +kernel)
set_option maxRecDepth 20000 in
theorem w_15 : Cond.selects "VaryStore" ⟨"VaryStore", "placeOfSame", "(LVaryStore$Thing;)I"⟩ ⟨"VaryStore", "placeOfSame", "(LVaryStore$Thing;)I"⟩ ∈ TB := tb_in 15 (by decide +kernel) (by decide +kernel)
set_option maxRecDepth 20000 in
theorem w_201 : Cond.code ⟨"VaryStore$Shelf", "drop", "(I)V"⟩ prog_4_method_6_code 2 none ∈ TB := tb_in 201 (by decide +kernel) (by decide +kernel)
set_option maxRecDepth 20000 in
theorem w_198 : Cond.methodLink "VaryStore" 126 ⟨"VaryStore$Shelf", "drop", "(I)V"⟩ ∈ TB := tb_in 198 (by decide +kernel) (by decide +kernel)
set_option maxRecDepth 20000 in
theorem w_199 : Cond.instanceMethod ⟨"VaryStore$Shelf", "drop", "(I)V"⟩ ∈ TB := tb_in 199 (by decide +kernel) (by decide +kernel)
set_option maxRecDepth 20000 in
theorem w_200 : Cond.selects "VaryStore$Shelf" ⟨"VaryStore$Shelf", "drop", "(I)V"⟩ ⟨"VaryStore$Shelf", "drop", "(I)V"⟩ ∈ TB := tb_in 200 (by decide +kernel) (by decide +kernel)
set_option maxRecDepth 20000 in
theorem w_627 : Cond.code ⟨"VaryStore", "mayBeKept", "(LVaryStore$Thing;)Z"⟩ prog_1_method_20_code 2 (some .boolean) ∈ TB := tb_in 627 (by decide +kernel) (by decide +kernel)
set_option maxRecDepth 20000 in
theorem w_624 : Cond.methodLink "VaryStore" 129 ⟨"VaryStore", "mayBeKept", "(LVaryStore$Thing;)Z"⟩ ∈ TB := tb_in 624 (by decide +kernel) (by decide +kernel)
set_option maxRecDepth 20000 in
theorem w_626 : Cond.instanceMethod ⟨"VaryStore", "mayBeKept", "(LVaryStore$Thing;)Z"⟩ ∈ TB := tb_in 626 (by decide +kernel) (by decide +kernel)
set_option maxRecDepth 20000 in
theorem w_16 : Cond.selects "VaryStore" ⟨"VaryStore", "mayBeKept", "(LVaryStore$Thing;)Z"⟩ ⟨"VaryStore", "mayBeKept", "(LVaryStore$Thing;)Z"⟩ ∈ TB := tb_in 16 (by decide +kernel) (by decide +kernel)
set_option maxRecDepth 20000 in
theorem w_766 : Cond.constantLong "VaryStoreModel" 38 255 ∈ TB := tb_in 766 (by decide +kernel) (by decide +kernel)
set_option maxRecDepth 100000 in
theorem uw_Ro : ∀ w ∈ u_ws R_Ro F_Ro 2, w ∈ TB := by decide +kernel
set_option maxRecDepth 100000 in
theorem fa_Ro_9 : FA "VaryStore$Row" 9 2 0 R_Ro F_Ro 2 t_Ro := ⟨rfl, uw_Ro, by decide, to_Ro, n_Ro, Or.inl w_64⟩
set_option maxRecDepth 100000 in
theorem fa_Ro_15 : FA "VaryStore$Row" 15 2 1 R_Ro F_Ro 2 t_Ro := ⟨rfl, uw_Ro, by decide, to_Ro, n_Ro, Or.inl w_65⟩
set_option maxRecDepth 100000 in
theorem uw_It : ∀ w ∈ u_ws R_It F_It 3, w ∈ TB := by decide +kernel
set_option maxRecDepth 100000 in
theorem fa_It_12 : FA "VaryStore$Items" 12 1 0 R_It F_It 3 t_It := ⟨rfl, uw_It, by decide, to_It, n_It, Or.inl w_127⟩
set_option maxRecDepth 100000 in
theorem fa_It_18 : FA "VaryStore$Items" 18 1 1 R_It F_It 3 t_It := ⟨rfl, uw_It, by decide, to_It, n_It, Or.inl w_128⟩
set_option maxRecDepth 100000 in
theorem fa_It_22 : FA "VaryStore$Items" 22 1 2 R_It F_It 3 t_It := ⟨rfl, uw_It, by decide, to_It, n_It, Or.inl w_129⟩
set_option maxRecDepth 100000 in
theorem uw_Te : ∀ w ∈ u_ws R_Te F_Te 5, w ∈ TB := by decide +kernel
set_option maxRecDepth 100000 in
theorem fa_Te_12 : FA "VaryStore$Text" 12 4 0 R_Te F_Te 5 t_Te := ⟨rfl, uw_Te, by decide, to_Te, n_Te, Or.inl w_102⟩
set_option maxRecDepth 100000 in
theorem fa_Te_18 : FA "VaryStore$Text" 18 4 1 R_Te F_Te 5 t_Te := ⟨rfl, uw_Te, by decide, to_Te, n_Te, Or.inl w_103⟩
set_option maxRecDepth 100000 in
theorem fa_Te_22 : FA "VaryStore$Text" 22 4 2 R_Te F_Te 5 t_Te := ⟨rfl, uw_Te, by decide, to_Te, n_Te, Or.inl w_104⟩
set_option maxRecDepth 100000 in
theorem fa_Te_25 : FA "VaryStore$Text" 25 4 3 R_Te F_Te 5 t_Te := ⟨rfl, uw_Te, by decide, to_Te, n_Te, Or.inl w_105⟩
set_option maxRecDepth 100000 in
theorem fa_Te_28 : FA "VaryStore$Text" 28 4 4 R_Te F_Te 5 t_Te := ⟨rfl, uw_Te, by decide, to_Te, n_Te, Or.inl w_106⟩
set_option maxRecDepth 100000 in
theorem uw_Sh : ∀ w ∈ u_ws R_Sh F_Sh 3, w ∈ TB := by decide +kernel
set_option maxRecDepth 100000 in
theorem fa_Sh_11 : FA "VaryStore$Shelf" 11 3 0 R_Sh F_Sh 3 t_Sh := ⟨rfl, uw_Sh, by decide, to_Sh, n_Sh, Or.inl w_83⟩
set_option maxRecDepth 100000 in
theorem fa_Sh_17 : FA "VaryStore$Shelf" 17 3 1 R_Sh F_Sh 3 t_Sh := ⟨rfl, uw_Sh, by decide, to_Sh, n_Sh, Or.inl w_84⟩
set_option maxRecDepth 100000 in
theorem fa_Sh_21 : FA "VaryStore$Shelf" 21 3 2 R_Sh F_Sh 3 t_Sh := ⟨rfl, uw_Sh, by decide, to_Sh, n_Sh, Or.inl w_86⟩
set_option maxRecDepth 100000 in
theorem uw_Th : ∀ w ∈ u_ws R_Th F_Th 13, w ∈ TB := by decide +kernel
set_option maxRecDepth 100000 in
theorem fa_Th_12 : FA "VaryStore$Thing" 12 5 0 R_Th F_Th 13 t_Th := ⟨rfl, uw_Th, by decide, to_Th, n_Th, Or.inl w_525⟩
set_option maxRecDepth 100000 in
theorem fa_Th_21 : FA "VaryStore$Thing" 21 5 1 R_Th F_Th 13 t_Th := ⟨rfl, uw_Th, by decide, to_Th, n_Th, Or.inl w_527⟩
set_option maxRecDepth 100000 in
theorem fa_Th_28 : FA "VaryStore$Thing" 28 5 2 R_Th F_Th 13 t_Th := ⟨rfl, uw_Th, by decide, to_Th, n_Th, Or.inl w_529⟩
set_option maxRecDepth 100000 in
theorem fa_Th_32 : FA "VaryStore$Thing" 32 5 3 R_Th F_Th 13 t_Th := ⟨rfl, uw_Th, by decide, to_Th, n_Th, Or.inl w_531⟩
set_option maxRecDepth 100000 in
theorem fa_Th_36 : FA "VaryStore$Thing" 36 5 4 R_Th F_Th 13 t_Th := ⟨rfl, uw_Th, by decide, to_Th, n_Th, Or.inl w_533⟩
set_option maxRecDepth 100000 in
theorem fa_Th_39 : FA "VaryStore$Thing" 39 5 5 R_Th F_Th 13 t_Th := ⟨rfl, uw_Th, by decide, to_Th, n_Th, Or.inl w_535⟩
set_option maxRecDepth 100000 in
theorem fa_Th_42 : FA "VaryStore$Thing" 42 5 6 R_Th F_Th 13 t_Th := ⟨rfl, uw_Th, by decide, to_Th, n_Th, Or.inl w_537⟩
set_option maxRecDepth 100000 in
theorem fa_Th_46 : FA "VaryStore$Thing" 46 5 7 R_Th F_Th 13 t_Th := ⟨rfl, uw_Th, by decide, to_Th, n_Th, Or.inl w_539⟩
set_option maxRecDepth 100000 in
theorem fa_Th_49 : FA "VaryStore$Thing" 49 5 8 R_Th F_Th 13 t_Th := ⟨rfl, uw_Th, by decide, to_Th, n_Th, Or.inl w_540⟩
set_option maxRecDepth 100000 in
theorem fa_Th_52 : FA "VaryStore$Thing" 52 5 9 R_Th F_Th 13 t_Th := ⟨rfl, uw_Th, by decide, to_Th, n_Th, Or.inl w_542⟩
set_option maxRecDepth 100000 in
theorem fa_Th_55 : FA "VaryStore$Thing" 55 5 10 R_Th F_Th 13 t_Th := ⟨rfl, uw_Th, by decide, to_Th, n_Th, Or.inl w_544⟩
set_option maxRecDepth 100000 in
theorem fa_Th_58 : FA "VaryStore$Thing" 58 5 11 R_Th F_Th 13 t_Th := ⟨rfl, uw_Th, by decide, to_Th, n_Th, Or.inl w_546⟩
set_option maxRecDepth 100000 in
theorem fa_Th_61 : FA "VaryStore$Thing" 61 5 12 R_Th F_Th 13 t_Th := ⟨rfl, uw_Th, by decide, to_Th, n_Th, Or.inl w_548⟩
set_option maxRecDepth 100000 in
theorem uw_VS : ∀ w ∈ u_ws R_VS F_VS 11, w ∈ TB := by decide +kernel
set_option maxRecDepth 100000 in
theorem fa_VS_12 : FA "VaryStore" 12 0 0 R_VS F_VS 11 t_VS := ⟨rfl, uw_VS, by decide, to_VS, n_VS, Or.inl w_138⟩
set_option maxRecDepth 100000 in
theorem fa_VS_19 : FA "VaryStore" 19 0 1 R_VS F_VS 11 t_VS := ⟨rfl, uw_VS, by decide, to_VS, n_VS, Or.inl w_139⟩
set_option maxRecDepth 100000 in
theorem fa_VS_26 : FA "VaryStore" 26 0 2 R_VS F_VS 11 t_VS := ⟨rfl, uw_VS, by decide, to_VS, n_VS, Or.inl w_140⟩
set_option maxRecDepth 100000 in
theorem fa_VS_30 : FA "VaryStore" 30 0 3 R_VS F_VS 11 t_VS := ⟨rfl, uw_VS, by decide, to_VS, n_VS, Or.inl w_141⟩
set_option maxRecDepth 100000 in
theorem fa_VS_33 : FA "VaryStore" 33 0 4 R_VS F_VS 11 t_VS := ⟨rfl, uw_VS, by decide, to_VS, n_VS, Or.inl w_142⟩
set_option maxRecDepth 100000 in
theorem fa_VS_37 : FA "VaryStore" 37 0 5 R_VS F_VS 11 t_VS := ⟨rfl, uw_VS, by decide, to_VS, n_VS, Or.inl w_143⟩
set_option maxRecDepth 100000 in
theorem fa_VS_40 : FA "VaryStore" 40 0 6 R_VS F_VS 11 t_VS := ⟨rfl, uw_VS, by decide, to_VS, n_VS, Or.inl w_144⟩
set_option maxRecDepth 100000 in
theorem fa_VS_43 : FA "VaryStore" 43 0 7 R_VS F_VS 11 t_VS := ⟨rfl, uw_VS, by decide, to_VS, n_VS, Or.inl w_145⟩
set_option maxRecDepth 100000 in
theorem fa_VS_49 : FA "VaryStore" 49 0 8 R_VS F_VS 11 t_VS := ⟨rfl, uw_VS, by decide, to_VS, n_VS, Or.inl w_146⟩
set_option maxRecDepth 100000 in
theorem fa_VS_53 : FA "VaryStore" 53 0 9 R_VS F_VS 11 t_VS := ⟨rfl, uw_VS, by decide, to_VS, n_VS, Or.inl w_147⟩
set_option maxRecDepth 100000 in
theorem fa_VS_56 : FA "VaryStore" 56 0 10 R_VS F_VS 11 t_VS := ⟨rfl, uw_VS, by decide, to_VS, n_VS, Or.inl w_148⟩
set_option maxRecDepth 100000 in
theorem fa_It_29 : FA "VaryStore$Items" 29 2 1 R_Ro F_Ro 2 t_Ro := ⟨rfl, uw_Ro, by decide, to_Ro, n_Ro, Or.inr ⟨"VaryStore", w_67⟩⟩
set_option maxRecDepth 100000 in
theorem fa_VS_59 : FA "VaryStore" 59 2 1 R_Ro F_Ro 2 t_Ro := ⟨rfl, uw_Ro, by decide, to_Ro, n_Ro, Or.inr ⟨"VaryStore", w_66⟩⟩
set_option maxRecDepth 100000 in
theorem fa_VS_133 : FA "VaryStore" 133 3 1 R_Sh F_Sh 3 t_Sh := ⟨rfl, uw_Sh, by decide, to_Sh, n_Sh, Or.inr ⟨"VaryStore", w_85⟩⟩
set_option maxRecDepth 100000 in
theorem fa_Te_42 : FA "VaryStore$Text" 42 2 1 R_Ro F_Ro 2 t_Ro := ⟨rfl, uw_Ro, by decide, to_Ro, n_Ro, Or.inr ⟨"VaryStore", w_68⟩⟩
set_option maxRecDepth 100000 in
theorem fa_VS_158 : FA "VaryStore" 158 5 3 R_Th F_Th 13 t_Th := ⟨rfl, uw_Th, by decide, to_Th, n_Th, Or.inr ⟨"VaryStore", w_532⟩⟩
set_option maxRecDepth 100000 in
theorem fa_VS_226 : FA "VaryStore" 226 5 2 R_Th F_Th 13 t_Th := ⟨rfl, uw_Th, by decide, to_Th, n_Th, Or.inr ⟨"VaryStore", w_530⟩⟩
set_option maxRecDepth 100000 in
theorem fa_VS_149 : FA "VaryStore" 149 5 0 R_Th F_Th 13 t_Th := ⟨rfl, uw_Th, by decide, to_Th, n_Th, Or.inr ⟨"VaryStore", w_526⟩⟩
set_option maxRecDepth 100000 in
theorem fa_VS_184 : FA "VaryStore" 184 5 1 R_Th F_Th 13 t_Th := ⟨rfl, uw_Th, by decide, to_Th, n_Th, Or.inr ⟨"VaryStore", w_528⟩⟩
set_option maxRecDepth 100000 in
theorem fa_VS_245 : FA "VaryStore" 245 5 4 R_Th F_Th 13 t_Th := ⟨rfl, uw_Th, by decide, to_Th, n_Th, Or.inr ⟨"VaryStore", w_534⟩⟩
set_option maxRecDepth 100000 in
theorem fa_VS_248 : FA "VaryStore" 248 5 5 R_Th F_Th 13 t_Th := ⟨rfl, uw_Th, by decide, to_Th, n_Th, Or.inr ⟨"VaryStore", w_536⟩⟩
set_option maxRecDepth 100000 in
theorem fa_VS_178 : FA "VaryStore" 178 5 9 R_Th F_Th 13 t_Th := ⟨rfl, uw_Th, by decide, to_Th, n_Th, Or.inr ⟨"VaryStore", w_543⟩⟩
set_option maxRecDepth 100000 in
theorem fa_VS_258 : FA "VaryStore" 258 5 10 R_Th F_Th 13 t_Th := ⟨rfl, uw_Th, by decide, to_Th, n_Th, Or.inr ⟨"VaryStore", w_545⟩⟩
set_option maxRecDepth 100000 in
theorem fa_VS_260 : FA "VaryStore" 260 5 11 R_Th F_Th 13 t_Th := ⟨rfl, uw_Th, by decide, to_Th, n_Th, Or.inr ⟨"VaryStore", w_547⟩⟩
set_option maxRecDepth 100000 in
theorem fa_VS_263 : FA "VaryStore" 263 5 6 R_Th F_Th 13 t_Th := ⟨rfl, uw_Th, by decide, to_Th, n_Th, Or.inr ⟨"VaryStore", w_538⟩⟩
set_option maxRecDepth 100000 in
theorem at_VS_163_167 : (∀ w ∈ vx_atS "VaryStore" 167 "java/lang/IllegalArgumentException" ["java/lang/RuntimeException", "java/lang/Exception"], w ∈ TB ∨ w ∈ NB) ∧ (∀ w ∈ Cond.classLink "VaryStore" 163 "java/lang/IllegalArgumentException" :: Cond.initialized "java/lang/IllegalArgumentException" :: vx_atS "VaryStore" 167 "java/lang/IllegalArgumentException" ["java/lang/RuntimeException", "java/lang/Exception"], vx_ot w = true) := ⟨by decide +kernel, by decide +kernel⟩
