theorem d_Ro_init_0 : decode b_Ro_init 0 = .ok (.aload_n 0, 1) := by decide +kernel
theorem d_Ro_init_1 : decode b_Ro_init 1 = .ok (.invokespecial 3, 3) := by decide +kernel
theorem d_Ro_init_4 : decode b_Ro_init 4 = .ok (.aload_n 0, 1) := by decide +kernel
theorem d_Ro_init_5 : decode b_Ro_init 5 = .ok (.sipush 300, 3) := by decide +kernel
theorem d_Ro_init_8 : decode b_Ro_init 8 = .ok (.newarray .char, 2) := by decide +kernel
theorem d_Ro_init_10 : decode b_Ro_init 10 = .ok (.putfield 9, 3) := by decide +kernel
theorem d_Ro_init_13 : decode b_Ro_init 13 = .ok (.aload_n 0, 1) := by decide +kernel
theorem d_Ro_init_14 : decode b_Ro_init 14 = .ok (.iconst 0, 1) := by decide +kernel
theorem d_Ro_init_15 : decode b_Ro_init 15 = .ok (.putfield 15, 3) := by decide +kernel
theorem d_Ro_init_18 : decode b_Ro_init 18 = .ok (.return_, 1) := by decide +kernel
theorem d_It_init_0 : decode b_It_init 0 = .ok (.aload_n 0, 1) := by decide +kernel
theorem d_It_init_1 : decode b_It_init 1 = .ok (.invokespecial 3, 3) := by decide +kernel
theorem d_It_init_4 : decode b_It_init 4 = .ok (.aload_n 0, 1) := by decide +kernel
theorem d_It_init_5 : decode b_It_init 5 = .ok (.new 9, 3) := by decide +kernel
theorem d_It_init_8 : decode b_It_init 8 = .ok (.dup, 1) := by decide +kernel
theorem d_It_init_9 : decode b_It_init 9 = .ok (.invokespecial 11, 3) := by decide +kernel
theorem d_It_init_12 : decode b_It_init 12 = .ok (.putfield 12, 3) := by decide +kernel
theorem d_It_init_15 : decode b_It_init 15 = .ok (.aload_n 0, 1) := by decide +kernel
theorem d_It_init_16 : decode b_It_init 16 = .ok (.sipush 150, 3) := by decide +kernel
theorem d_It_init_19 : decode b_It_init 19 = .ok (.newarray .int, 2) := by decide +kernel
theorem d_It_init_21 : decode b_It_init 21 = .ok (.putfield 18, 3) := by decide +kernel
theorem d_It_init_24 : decode b_It_init 24 = .ok (.aload_n 0, 1) := by decide +kernel
theorem d_It_init_25 : decode b_It_init 25 = .ok (.iconst 0, 1) := by decide +kernel
theorem d_It_init_26 : decode b_It_init 26 = .ok (.putfield 22, 3) := by decide +kernel
theorem d_It_init_29 : decode b_It_init 29 = .ok (.return_, 1) := by decide +kernel
theorem d_Te_init_0 : decode b_Te_init 0 = .ok (.aload_n 0, 1) := by decide +kernel
theorem d_Te_init_1 : decode b_Te_init 1 = .ok (.invokespecial 3, 3) := by decide +kernel
theorem d_Te_init_4 : decode b_Te_init 4 = .ok (.aload_n 0, 1) := by decide +kernel
theorem d_Te_init_5 : decode b_Te_init 5 = .ok (.new 9, 3) := by decide +kernel
theorem d_Te_init_8 : decode b_Te_init 8 = .ok (.dup, 1) := by decide +kernel
theorem d_Te_init_9 : decode b_Te_init 9 = .ok (.invokespecial 11, 3) := by decide +kernel
theorem d_Te_init_12 : decode b_Te_init 12 = .ok (.putfield 12, 3) := by decide +kernel
theorem d_Te_init_15 : decode b_Te_init 15 = .ok (.aload_n 0, 1) := by decide +kernel
theorem d_Te_init_16 : decode b_Te_init 16 = .ok (.bipush 100, 2) := by decide +kernel
theorem d_Te_init_18 : decode b_Te_init 18 = .ok (.newarray .int, 2) := by decide +kernel
theorem d_Te_init_20 : decode b_Te_init 20 = .ok (.putfield 18, 3) := by decide +kernel
theorem d_Te_init_23 : decode b_Te_init 23 = .ok (.aload_n 0, 1) := by decide +kernel
theorem d_Te_init_24 : decode b_Te_init 24 = .ok (.bipush 100, 2) := by decide +kernel
theorem d_Te_init_26 : decode b_Te_init 26 = .ok (.newarray .int, 2) := by decide +kernel
theorem d_Te_init_28 : decode b_Te_init 28 = .ok (.putfield 22, 3) := by decide +kernel
theorem d_Te_init_31 : decode b_Te_init 31 = .ok (.aload_n 0, 1) := by decide +kernel
theorem d_Te_init_32 : decode b_Te_init 32 = .ok (.bipush 100, 2) := by decide +kernel
theorem d_Te_init_34 : decode b_Te_init 34 = .ok (.newarray .int, 2) := by decide +kernel
theorem d_Te_init_36 : decode b_Te_init 36 = .ok (.putfield 25, 3) := by decide +kernel
theorem d_Te_init_39 : decode b_Te_init 39 = .ok (.aload_n 0, 1) := by decide +kernel
theorem d_Te_init_40 : decode b_Te_init 40 = .ok (.iconst 0, 1) := by decide +kernel
theorem d_Te_init_41 : decode b_Te_init 41 = .ok (.putfield 28, 3) := by decide +kernel
theorem d_Te_init_44 : decode b_Te_init 44 = .ok (.return_, 1) := by decide +kernel
theorem d_Sh_init_0 : decode b_Sh_init 0 = .ok (.aload_n 0, 1) := by decide +kernel
theorem d_Sh_init_1 : decode b_Sh_init 1 = .ok (.invokespecial 3, 3) := by decide +kernel
theorem d_Sh_init_4 : decode b_Sh_init 4 = .ok (.aload_n 0, 1) := by decide +kernel
theorem d_Sh_init_5 : decode b_Sh_init 5 = .ok (.bipush 25, 2) := by decide +kernel
theorem d_Sh_init_7 : decode b_Sh_init 7 = .ok (.anewarray 9, 3) := by decide +kernel
theorem d_Sh_init_10 : decode b_Sh_init 10 = .ok (.putfield 11, 3) := by decide +kernel
theorem d_Sh_init_13 : decode b_Sh_init 13 = .ok (.aload_n 0, 1) := by decide +kernel
theorem d_Sh_init_14 : decode b_Sh_init 14 = .ok (.iconst 0, 1) := by decide +kernel
theorem d_Sh_init_15 : decode b_Sh_init 15 = .ok (.putfield 17, 3) := by decide +kernel
theorem d_Sh_init_18 : decode b_Sh_init 18 = .ok (.aload_n 0, 1) := by decide +kernel
theorem d_Sh_init_19 : decode b_Sh_init 19 = .ok (.iconst 0, 1) := by decide +kernel
theorem d_Sh_init_20 : decode b_Sh_init 20 = .ok (.putfield 21, 3) := by decide +kernel
theorem d_Sh_init_23 : decode b_Sh_init 23 = .ok (.return_, 1) := by decide +kernel
theorem d_Th_init_0 : decode b_Th_init 0 = .ok (.aload_n 0, 1) := by decide +kernel
theorem d_Th_init_1 : decode b_Th_init 1 = .ok (.invokespecial 3, 3) := by decide +kernel
theorem d_Th_init_4 : decode b_Th_init 4 = .ok (.aload_n 0, 1) := by decide +kernel
theorem d_Th_init_5 : decode b_Th_init 5 = .ok (.new 9, 3) := by decide +kernel
theorem d_Th_init_8 : decode b_Th_init 8 = .ok (.dup, 1) := by decide +kernel
theorem d_Th_init_9 : decode b_Th_init 9 = .ok (.invokespecial 11, 3) := by decide +kernel
theorem d_Th_init_12 : decode b_Th_init 12 = .ok (.putfield 12, 3) := by decide +kernel
theorem d_Th_init_15 : decode b_Th_init 15 = .ok (.aload_n 0, 1) := by decide +kernel
theorem d_Th_init_16 : decode b_Th_init 16 = .ok (.new 18, 3) := by decide +kernel
theorem d_Th_init_19 : decode b_Th_init 19 = .ok (.dup, 1) := by decide +kernel
theorem d_Th_init_20 : decode b_Th_init 20 = .ok (.invokespecial 20, 3) := by decide +kernel
theorem d_Th_init_23 : decode b_Th_init 23 = .ok (.putfield 21, 3) := by decide +kernel
theorem d_Th_init_26 : decode b_Th_init 26 = .ok (.aload_n 0, 1) := by decide +kernel
theorem d_Th_init_27 : decode b_Th_init 27 = .ok (.new 25, 3) := by decide +kernel
theorem d_Th_init_30 : decode b_Th_init 30 = .ok (.dup, 1) := by decide +kernel
theorem d_Th_init_31 : decode b_Th_init 31 = .ok (.invokespecial 27, 3) := by decide +kernel
theorem d_Th_init_34 : decode b_Th_init 34 = .ok (.putfield 28, 3) := by decide +kernel
theorem d_Th_init_37 : decode b_Th_init 37 = .ok (.aload_n 0, 1) := by decide +kernel
theorem d_Th_init_38 : decode b_Th_init 38 = .ok (.iconst 0, 1) := by decide +kernel
theorem d_Th_init_39 : decode b_Th_init 39 = .ok (.putfield 32, 3) := by decide +kernel
theorem d_Th_init_42 : decode b_Th_init 42 = .ok (.aload_n 0, 1) := by decide +kernel
theorem d_Th_init_43 : decode b_Th_init 43 = .ok (.bipush (-2), 2) := by decide +kernel
theorem d_Th_init_45 : decode b_Th_init 45 = .ok (.putfield 36, 3) := by decide +kernel
theorem d_Th_init_48 : decode b_Th_init 48 = .ok (.aload_n 0, 1) := by decide +kernel
theorem d_Th_init_49 : decode b_Th_init 49 = .ok (.bipush (-2), 2) := by decide +kernel
theorem d_Th_init_51 : decode b_Th_init 51 = .ok (.putfield 39, 3) := by decide +kernel
theorem d_Th_init_54 : decode b_Th_init 54 = .ok (.aload_n 0, 1) := by decide +kernel
theorem d_Th_init_55 : decode b_Th_init 55 = .ok (.iconst 0, 1) := by decide +kernel
theorem d_Th_init_56 : decode b_Th_init 56 = .ok (.putfield 42, 3) := by decide +kernel
theorem d_Th_init_59 : decode b_Th_init 59 = .ok (.aload_n 0, 1) := by decide +kernel
theorem d_Th_init_60 : decode b_Th_init 60 = .ok (.iconst 0, 1) := by decide +kernel
theorem d_Th_init_61 : decode b_Th_init 61 = .ok (.putfield 46, 3) := by decide +kernel
theorem d_Th_init_64 : decode b_Th_init 64 = .ok (.aload_n 0, 1) := by decide +kernel
theorem d_Th_init_65 : decode b_Th_init 65 = .ok (.iconst 0, 1) := by decide +kernel
theorem d_Th_init_66 : decode b_Th_init 66 = .ok (.putfield 49, 3) := by decide +kernel
theorem d_Th_init_69 : decode b_Th_init 69 = .ok (.aload_n 0, 1) := by decide +kernel
theorem d_Th_init_70 : decode b_Th_init 70 = .ok (.iconst 0, 1) := by decide +kernel
theorem d_Th_init_71 : decode b_Th_init 71 = .ok (.putfield 52, 3) := by decide +kernel
theorem d_Th_init_74 : decode b_Th_init 74 = .ok (.aload_n 0, 1) := by decide +kernel
theorem d_Th_init_75 : decode b_Th_init 75 = .ok (.iconst 0, 1) := by decide +kernel
theorem d_Th_init_76 : decode b_Th_init 76 = .ok (.putfield 55, 3) := by decide +kernel
theorem d_Th_init_79 : decode b_Th_init 79 = .ok (.aload_n 0, 1) := by decide +kernel
theorem d_Th_init_80 : decode b_Th_init 80 = .ok (.iconst 0, 1) := by decide +kernel
theorem d_Th_init_81 : decode b_Th_init 81 = .ok (.putfield 58, 3) := by decide +kernel
theorem d_Th_init_84 : decode b_Th_init 84 = .ok (.aload_n 0, 1) := by decide +kernel
theorem d_Th_init_85 : decode b_Th_init 85 = .ok (.iconst 0, 1) := by decide +kernel
theorem d_Th_init_86 : decode b_Th_init 86 = .ok (.putfield 61, 3) := by decide +kernel
theorem d_Th_init_89 : decode b_Th_init 89 = .ok (.return_, 1) := by decide +kernel
theorem d_VS_init_0 : decode b_VS_init 0 = .ok (.aload_n 0, 1) := by decide +kernel
theorem d_VS_init_1 : decode b_VS_init 1 = .ok (.invokespecial 3, 3) := by decide +kernel
theorem d_VS_init_4 : decode b_VS_init 4 = .ok (.aload_n 0, 1) := by decide +kernel
theorem d_VS_init_5 : decode b_VS_init 5 = .ok (.new 9, 3) := by decide +kernel
theorem d_VS_init_8 : decode b_VS_init 8 = .ok (.dup, 1) := by decide +kernel
theorem d_VS_init_9 : decode b_VS_init 9 = .ok (.invokespecial 11, 3) := by decide +kernel
theorem d_VS_init_12 : decode b_VS_init 12 = .ok (.putfield 12, 3) := by decide +kernel
theorem d_VS_init_15 : decode b_VS_init 15 = .ok (.aload_n 0, 1) := by decide +kernel
theorem d_VS_init_16 : decode b_VS_init 16 = .ok (.new 16, 3) := by decide +kernel
theorem d_VS_init_19 : decode b_VS_init 19 = .ok (.dup, 1) := by decide +kernel
theorem d_VS_init_20 : decode b_VS_init 20 = .ok (.invokespecial 18, 3) := by decide +kernel
theorem d_VS_init_23 : decode b_VS_init 23 = .ok (.putfield 19, 3) := by decide +kernel
theorem d_VS_init_26 : decode b_VS_init 26 = .ok (.aload_n 0, 1) := by decide +kernel
theorem d_VS_init_27 : decode b_VS_init 27 = .ok (.new 23, 3) := by decide +kernel
theorem d_VS_init_30 : decode b_VS_init 30 = .ok (.dup, 1) := by decide +kernel
theorem d_VS_init_31 : decode b_VS_init 31 = .ok (.invokespecial 25, 3) := by decide +kernel
theorem d_VS_init_34 : decode b_VS_init 34 = .ok (.putfield 26, 3) := by decide +kernel
theorem d_VS_init_37 : decode b_VS_init 37 = .ok (.aload_n 0, 1) := by decide +kernel
theorem d_VS_init_38 : decode b_VS_init 38 = .ok (.new 23, 3) := by decide +kernel
theorem d_VS_init_41 : decode b_VS_init 41 = .ok (.dup, 1) := by decide +kernel
theorem d_VS_init_42 : decode b_VS_init 42 = .ok (.invokespecial 25, 3) := by decide +kernel
theorem d_VS_init_45 : decode b_VS_init 45 = .ok (.putfield 30, 3) := by decide +kernel
theorem d_VS_init_48 : decode b_VS_init 48 = .ok (.aload_n 0, 1) := by decide +kernel
theorem d_VS_init_49 : decode b_VS_init 49 = .ok (.iconst (-1), 1) := by decide +kernel
theorem d_VS_init_50 : decode b_VS_init 50 = .ok (.putfield 33, 3) := by decide +kernel
theorem d_VS_init_53 : decode b_VS_init 53 = .ok (.aload_n 0, 1) := by decide +kernel
theorem d_VS_init_54 : decode b_VS_init 54 = .ok (.iconst 0, 1) := by decide +kernel
theorem d_VS_init_55 : decode b_VS_init 55 = .ok (.putfield 37, 3) := by decide +kernel
theorem d_VS_init_58 : decode b_VS_init 58 = .ok (.aload_n 0, 1) := by decide +kernel
theorem d_VS_init_59 : decode b_VS_init 59 = .ok (.new 9, 3) := by decide +kernel
theorem d_VS_init_62 : decode b_VS_init 62 = .ok (.dup, 1) := by decide +kernel
theorem d_VS_init_63 : decode b_VS_init 63 = .ok (.invokespecial 11, 3) := by decide +kernel
theorem d_VS_init_66 : decode b_VS_init 66 = .ok (.putfield 40, 3) := by decide +kernel
theorem d_VS_init_69 : decode b_VS_init 69 = .ok (.aload_n 0, 1) := by decide +kernel
theorem d_VS_init_70 : decode b_VS_init 70 = .ok (.new 9, 3) := by decide +kernel
theorem d_VS_init_73 : decode b_VS_init 73 = .ok (.dup, 1) := by decide +kernel
theorem d_VS_init_74 : decode b_VS_init 74 = .ok (.invokespecial 11, 3) := by decide +kernel
theorem d_VS_init_77 : decode b_VS_init 77 = .ok (.putfield 43, 3) := by decide +kernel
theorem d_VS_init_80 : decode b_VS_init 80 = .ok (.aload_n 0, 1) := by decide +kernel
theorem d_VS_init_81 : decode b_VS_init 81 = .ok (.new 46, 3) := by decide +kernel
theorem d_VS_init_84 : decode b_VS_init 84 = .ok (.dup, 1) := by decide +kernel
theorem d_VS_init_85 : decode b_VS_init 85 = .ok (.invokespecial 48, 3) := by decide +kernel
theorem d_VS_init_88 : decode b_VS_init 88 = .ok (.putfield 49, 3) := by decide +kernel
theorem d_VS_init_91 : decode b_VS_init 91 = .ok (.aload_n 0, 1) := by decide +kernel
theorem d_VS_init_92 : decode b_VS_init 92 = .ok (.new 46, 3) := by decide +kernel
theorem d_VS_init_95 : decode b_VS_init 95 = .ok (.dup, 1) := by decide +kernel
theorem d_VS_init_96 : decode b_VS_init 96 = .ok (.invokespecial 48, 3) := by decide +kernel
theorem d_VS_init_99 : decode b_VS_init 99 = .ok (.putfield 53, 3) := by decide +kernel
theorem d_VS_init_102 : decode b_VS_init 102 = .ok (.aload_n 0, 1) := by decide +kernel
theorem d_VS_init_103 : decode b_VS_init 103 = .ok (.new 46, 3) := by decide +kernel
theorem d_VS_init_106 : decode b_VS_init 106 = .ok (.dup, 1) := by decide +kernel
theorem d_VS_init_107 : decode b_VS_init 107 = .ok (.invokespecial 48, 3) := by decide +kernel
theorem d_VS_init_110 : decode b_VS_init 110 = .ok (.putfield 56, 3) := by decide +kernel
theorem d_VS_init_113 : decode b_VS_init 113 = .ok (.return_, 1) := by decide +kernel
theorem d_Ro_clear_0 : decode b_Ro_clear 0 = .ok (.aload_n 0, 1) := by decide +kernel
theorem d_Ro_clear_1 : decode b_Ro_clear 1 = .ok (.iconst 0, 1) := by decide +kernel
theorem d_Ro_clear_2 : decode b_Ro_clear 2 = .ok (.putfield 15, 3) := by decide +kernel
theorem d_Ro_clear_5 : decode b_Ro_clear 5 = .ok (.return_, 1) := by decide +kernel
theorem d_Ro_addPart_0 : decode b_Ro_addPart 0 = .ok (.iload_n 3, 1) := by decide +kernel
theorem d_Ro_addPart_1 : decode b_Ro_addPart 1 = .ok (.iload_n 2, 1) := by decide +kernel
theorem d_Ro_addPart_2 : decode b_Ro_addPart 2 = .ok (.isub, 1) := by decide +kernel
theorem d_Ro_addPart_3 : decode b_Ro_addPart 3 = .ok (.istore 4, 2) := by decide +kernel
theorem d_Ro_addPart_5 : decode b_Ro_addPart 5 = .ok (.iload_n 2, 1) := by decide +kernel
theorem d_Ro_addPart_6 : decode b_Ro_addPart 6 = .ok (.ifCond .lt 60, 3) := by decide +kernel
theorem d_Ro_addPart_9 : decode b_Ro_addPart 9 = .ok (.iload 4, 2) := by decide +kernel
theorem d_Ro_addPart_11 : decode b_Ro_addPart 11 = .ok (.ifCond .le 55, 3) := by decide +kernel
theorem d_Ro_addPart_66 : decode b_Ro_addPart 66 = .ok (.return_, 1) := by decide +kernel
theorem d_Ro_copy_0 : decode b_Ro_copy 0 = .ok (.aload_n 0, 1) := by decide +kernel
theorem d_Ro_copy_1 : decode b_Ro_copy 1 = .ok (.invokevirtual 38, 3) := by decide +kernel
theorem d_Ro_copy_4 : decode b_Ro_copy 4 = .ok (.aload_n 0, 1) := by decide +kernel
theorem d_Ro_copy_5 : decode b_Ro_copy 5 = .ok (.aload_n 1, 1) := by decide +kernel
theorem d_Ro_copy_6 : decode b_Ro_copy 6 = .ok (.iconst 0, 1) := by decide +kernel
theorem d_Ro_copy_7 : decode b_Ro_copy 7 = .ok (.aload_n 1, 1) := by decide +kernel
theorem d_Ro_copy_8 : decode b_Ro_copy 8 = .ok (.getfield 15, 3) := by decide +kernel
theorem d_Ro_copy_11 : decode b_Ro_copy 11 = .ok (.invokevirtual 41, 3) := by decide +kernel
theorem d_Ro_copy_14 : decode b_Ro_copy 14 = .ok (.return_, 1) := by decide +kernel
set_option maxRecDepth 20000 in
theorem w_63 : Cond.methodLink "VaryStore$Row" 3 objectInit ∈ TB := tb_in 63 (by decide +kernel) (by decide +kernel)
set_option maxRecDepth 20000 in
theorem w_56 : Cond.instanceMethod objectInit ∈ TB := tb_in 56 (by decide +kernel) (by decide +kernel)
set_option maxRecDepth 20000 in
theorem w_57 : Cond.code objectInit ⟨#[0xb1]⟩ 1 none ∈ TB := tb_in 57 (by decide +kernel) (by decide +kernel)
set_option maxRecDepth 20000 in
theorem w_74 : Cond.arrayClass .char ∈ TB := tb_in 74 (by decide +kernel) (by decide +kernel)
set_option maxRecDepth 20000 in
theorem w_64 : Cond.fieldLink "VaryStore$Row" 9 "VaryStore$Row" "letters" "[C"  ∈ TB := tb_in 64 (by decide +kernel) (by decide +kernel)
set_option maxRecDepth 20000 in
theorem w_65 : Cond.fieldLink "VaryStore$Row" 15 "VaryStore$Row" "length" "I"  ∈ TB := tb_in 65 (by decide +kernel) (by decide +kernel)
set_option maxRecDepth 20000 in
theorem w_124 : Cond.methodLink "VaryStore$Items" 3 objectInit ∈ TB := tb_in 124 (by decide +kernel) (by decide +kernel)
set_option maxRecDepth 20000 in
theorem w_59 : Cond.instantiable "VaryStore$Row" 2 ∈ TB := tb_in 59 (by decide +kernel) (by decide +kernel)
set_option maxRecDepth 20000 in
theorem w_125 : Cond.classLink "VaryStore$Items" 9 "VaryStore$Row" ∈ TB := tb_in 125 (by decide +kernel) (by decide +kernel)
set_option maxRecDepth 20000 in
theorem w_31 : Cond.initialized "VaryStore$Row" ∈ TB := tb_in 31 (by decide +kernel) (by decide +kernel)
set_option maxRecDepth 20000 in
theorem w_62 : Cond.code ⟨"VaryStore$Row", "<init>", "()V"⟩ prog_3_method_1_code 1 none ∈ TB := tb_in 62 (by decide +kernel) (by decide +kernel)
set_option maxRecDepth 20000 in
theorem w_126 : Cond.methodLinkNest "VaryStore$Items" 11 ⟨"VaryStore$Row", "<init>", "()V"⟩ "VaryStore" ∈ NB := nb_in 126 (by decide +kernel) (by decide +kernel)
set_option maxRecDepth 20000 in
theorem w_61 : Cond.instanceMethod ⟨"VaryStore$Row", "<init>", "()V"⟩ ∈ TB := tb_in 61 (by decide +kernel) (by decide +kernel)
set_option maxRecDepth 20000 in
theorem w_127 : Cond.fieldLink "VaryStore$Items" 12 "VaryStore$Items" "row" "LVaryStore$Row;"  ∈ TB := tb_in 127 (by decide +kernel) (by decide +kernel)
set_option maxRecDepth 20000 in
theorem w_118 : Cond.arrayClass .int ∈ TB := tb_in 118 (by decide +kernel) (by decide +kernel)
set_option maxRecDepth 20000 in
theorem w_128 : Cond.fieldLink "VaryStore$Items" 18 "VaryStore$Items" "ends" "[I"  ∈ TB := tb_in 128 (by decide +kernel) (by decide +kernel)
set_option maxRecDepth 20000 in
theorem w_129 : Cond.fieldLink "VaryStore$Items" 22 "VaryStore$Items" "count" "I"  ∈ TB := tb_in 129 (by decide +kernel) (by decide +kernel)
set_option maxRecDepth 20000 in
theorem w_99 : Cond.methodLink "VaryStore$Text" 3 objectInit ∈ TB := tb_in 99 (by decide +kernel) (by decide +kernel)
set_option maxRecDepth 20000 in
theorem w_100 : Cond.classLink "VaryStore$Text" 9 "VaryStore$Row" ∈ TB := tb_in 100 (by decide +kernel) (by decide +kernel)
set_option maxRecDepth 20000 in
theorem w_101 : Cond.methodLinkNest "VaryStore$Text" 11 ⟨"VaryStore$Row", "<init>", "()V"⟩ "VaryStore" ∈ NB := nb_in 101 (by decide +kernel) (by decide +kernel)
set_option maxRecDepth 20000 in
theorem w_102 : Cond.fieldLink "VaryStore$Text" 12 "VaryStore$Text" "row" "LVaryStore$Row;"  ∈ TB := tb_in 102 (by decide +kernel) (by decide +kernel)
set_option maxRecDepth 20000 in
theorem w_103 : Cond.fieldLink "VaryStore$Text" 18 "VaryStore$Text" "starts" "[I"  ∈ TB := tb_in 103 (by decide +kernel) (by decide +kernel)
set_option maxRecDepth 20000 in
theorem w_104 : Cond.fieldLink "VaryStore$Text" 22 "VaryStore$Text" "colons" "[I"  ∈ TB := tb_in 104 (by decide +kernel) (by decide +kernel)
set_option maxRecDepth 20000 in
theorem w_105 : Cond.fieldLink "VaryStore$Text" 25 "VaryStore$Text" "ends" "[I"  ∈ TB := tb_in 105 (by decide +kernel) (by decide +kernel)
set_option maxRecDepth 20000 in
theorem w_106 : Cond.fieldLink "VaryStore$Text" 28 "VaryStore$Text" "lines" "I"  ∈ TB := tb_in 106 (by decide +kernel) (by decide +kernel)
set_option maxRecDepth 20000 in
theorem w_80 : Cond.methodLink "VaryStore$Shelf" 3 objectInit ∈ TB := tb_in 80 (by decide +kernel) (by decide +kernel)
set_option maxRecDepth 20000 in
theorem w_82 : Cond.arrayOver (.object "VaryStore$Thing") ∈ NB := nb_in 82 (by decide +kernel) (by decide +kernel)
set_option maxRecDepth 20000 in
theorem w_81 : Cond.classLink "VaryStore$Shelf" 9 "VaryStore$Thing" ∈ TB := tb_in 81 (by decide +kernel) (by decide +kernel)
set_option maxRecDepth 20000 in
theorem w_83 : Cond.fieldLink "VaryStore$Shelf" 11 "VaryStore$Shelf" "all" "[LVaryStore$Thing;"  ∈ TB := tb_in 83 (by decide +kernel) (by decide +kernel)
set_option maxRecDepth 20000 in
theorem w_84 : Cond.fieldLink "VaryStore$Shelf" 17 "VaryStore$Shelf" "count" "I"  ∈ TB := tb_in 84 (by decide +kernel) (by decide +kernel)
set_option maxRecDepth 20000 in
theorem w_86 : Cond.fieldLink "VaryStore$Shelf" 21 "VaryStore$Shelf" "uses" "I"  ∈ TB := tb_in 86 (by decide +kernel) (by decide +kernel)
set_option maxRecDepth 20000 in
theorem w_520 : Cond.methodLink "VaryStore$Thing" 3 objectInit ∈ TB := tb_in 520 (by decide +kernel) (by decide +kernel)
set_option maxRecDepth 20000 in
theorem w_521 : Cond.classLink "VaryStore$Thing" 9 "VaryStore$Row" ∈ TB := tb_in 521 (by decide +kernel) (by decide +kernel)
set_option maxRecDepth 20000 in
theorem w_522 : Cond.methodLinkNest "VaryStore$Thing" 11 ⟨"VaryStore$Row", "<init>", "()V"⟩ "VaryStore" ∈ NB := nb_in 522 (by decide +kernel) (by decide +kernel)
set_option maxRecDepth 20000 in
theorem w_527 : Cond.fieldLink "VaryStore$Thing" 12 "VaryStore$Thing" "etag" "LVaryStore$Row;"  ∈ TB := tb_in 527 (by decide +kernel) (by decide +kernel)
set_option maxRecDepth 20000 in
theorem w_120 : Cond.instantiable "VaryStore$Items" 3 ∈ TB := tb_in 120 (by decide +kernel) (by decide +kernel)
set_option maxRecDepth 20000 in
theorem w_523 : Cond.classLink "VaryStore$Thing" 18 "VaryStore$Items" ∈ TB := tb_in 523 (by decide +kernel) (by decide +kernel)
set_option maxRecDepth 20000 in
theorem w_34 : Cond.initialized "VaryStore$Items" ∈ TB := tb_in 34 (by decide +kernel) (by decide +kernel)
set_option maxRecDepth 20000 in
theorem w_123 : Cond.code ⟨"VaryStore$Items", "<init>", "()V"⟩ prog_2_method_1_code 1 none ∈ TB := tb_in 123 (by decide +kernel) (by decide +kernel)
set_option maxRecDepth 20000 in
theorem w_524 : Cond.methodLinkNest "VaryStore$Thing" 20 ⟨"VaryStore$Items", "<init>", "()V"⟩ "VaryStore" ∈ NB := nb_in 524 (by decide +kernel) (by decide +kernel)
set_option maxRecDepth 20000 in
theorem w_122 : Cond.instanceMethod ⟨"VaryStore$Items", "<init>", "()V"⟩ ∈ TB := tb_in 122 (by decide +kernel) (by decide +kernel)
set_option maxRecDepth 20000 in
theorem w_529 : Cond.fieldLink "VaryStore$Thing" 21 "VaryStore$Thing" "vary" "LVaryStore$Items;"  ∈ TB := tb_in 529 (by decide +kernel) (by decide +kernel)
set_option maxRecDepth 20000 in
theorem w_95 : Cond.instantiable "VaryStore$Text" 5 ∈ TB := tb_in 95 (by decide +kernel) (by decide +kernel)
set_option maxRecDepth 20000 in
theorem w_525 : Cond.classLink "VaryStore$Thing" 25 "VaryStore$Text" ∈ TB := tb_in 525 (by decide +kernel) (by decide +kernel)
set_option maxRecDepth 20000 in
theorem w_33 : Cond.initialized "VaryStore$Text" ∈ TB := tb_in 33 (by decide +kernel) (by decide +kernel)
set_option maxRecDepth 20000 in
theorem w_98 : Cond.code ⟨"VaryStore$Text", "<init>", "()V"⟩ prog_5_method_1_code 1 none ∈ TB := tb_in 98 (by decide +kernel) (by decide +kernel)
set_option maxRecDepth 20000 in
theorem w_526 : Cond.methodLinkNest "VaryStore$Thing" 27 ⟨"VaryStore$Text", "<init>", "()V"⟩ "VaryStore" ∈ NB := nb_in 526 (by decide +kernel) (by decide +kernel)
set_option maxRecDepth 20000 in
theorem w_97 : Cond.instanceMethod ⟨"VaryStore$Text", "<init>", "()V"⟩ ∈ TB := tb_in 97 (by decide +kernel) (by decide +kernel)
set_option maxRecDepth 20000 in
theorem w_531 : Cond.fieldLink "VaryStore$Thing" 28 "VaryStore$Thing" "request" "LVaryStore$Text;"  ∈ TB := tb_in 531 (by decide +kernel) (by decide +kernel)
set_option maxRecDepth 20000 in
theorem w_533 : Cond.fieldLink "VaryStore$Thing" 32 "VaryStore$Thing" "path" "I"  ∈ TB := tb_in 533 (by decide +kernel) (by decide +kernel)
set_option maxRecDepth 20000 in
theorem w_535 : Cond.fieldLink "VaryStore$Thing" 36 "VaryStore$Thing" "sharedMaxAge" "I"  ∈ TB := tb_in 535 (by decide +kernel) (by decide +kernel)
set_option maxRecDepth 20000 in
theorem w_537 : Cond.fieldLink "VaryStore$Thing" 39 "VaryStore$Thing" "maxAge" "I"  ∈ TB := tb_in 537 (by decide +kernel) (by decide +kernel)
set_option maxRecDepth 20000 in
theorem w_539 : Cond.fieldLink "VaryStore$Thing" 42 "VaryStore$Thing" "secret" "Z"  ∈ TB := tb_in 539 (by decide +kernel) (by decide +kernel)
set_option maxRecDepth 20000 in
theorem w_541 : Cond.fieldLink "VaryStore$Thing" 46 "VaryStore$Thing" "unsure" "Z"  ∈ TB := tb_in 541 (by decide +kernel) (by decide +kernel)
set_option maxRecDepth 20000 in
theorem w_542 : Cond.fieldLink "VaryStore$Thing" 49 "VaryStore$Thing" "strict" "Z"  ∈ TB := tb_in 542 (by decide +kernel) (by decide +kernel)
set_option maxRecDepth 20000 in
theorem w_544 : Cond.fieldLink "VaryStore$Thing" 52 "VaryStore$Thing" "life" "I"  ∈ TB := tb_in 544 (by decide +kernel) (by decide +kernel)
set_option maxRecDepth 20000 in
theorem w_546 : Cond.fieldLink "VaryStore$Thing" 55 "VaryStore$Thing" "age" "I"  ∈ TB := tb_in 546 (by decide +kernel) (by decide +kernel)
set_option maxRecDepth 20000 in
theorem w_548 : Cond.fieldLink "VaryStore$Thing" 58 "VaryStore$Thing" "since" "I"  ∈ TB := tb_in 548 (by decide +kernel) (by decide +kernel)
set_option maxRecDepth 20000 in
theorem w_550 : Cond.fieldLink "VaryStore$Thing" 61 "VaryStore$Thing" "used" "I"  ∈ TB := tb_in 550 (by decide +kernel) (by decide +kernel)
set_option maxRecDepth 20000 in
theorem w_55 : Cond.methodLink "VaryStore" 3 objectInit ∈ TB := tb_in 55 (by decide +kernel) (by decide +kernel)
set_option maxRecDepth 20000 in
theorem w_58 : Cond.classLink "VaryStore" 9 "VaryStore$Row" ∈ TB := tb_in 58 (by decide +kernel) (by decide +kernel)
set_option maxRecDepth 20000 in
theorem w_60 : Cond.methodLinkNest "VaryStore" 11 ⟨"VaryStore$Row", "<init>", "()V"⟩ "VaryStore" ∈ NB := nb_in 60 (by decide +kernel) (by decide +kernel)
set_option maxRecDepth 20000 in
theorem w_138 : Cond.fieldLink "VaryStore" 12 "VaryStore" "tape" "LVaryStore$Row;"  ∈ TB := tb_in 138 (by decide +kernel) (by decide +kernel)
set_option maxRecDepth 20000 in
theorem w_76 : Cond.instantiable "VaryStore$Shelf" 3 ∈ TB := tb_in 76 (by decide +kernel) (by decide +kernel)
set_option maxRecDepth 20000 in
theorem w_75 : Cond.classLink "VaryStore" 16 "VaryStore$Shelf" ∈ TB := tb_in 75 (by decide +kernel) (by decide +kernel)
set_option maxRecDepth 20000 in
theorem w_32 : Cond.initialized "VaryStore$Shelf" ∈ TB := tb_in 32 (by decide +kernel) (by decide +kernel)
set_option maxRecDepth 20000 in
theorem w_79 : Cond.code ⟨"VaryStore$Shelf", "<init>", "()V"⟩ prog_4_method_1_code 1 none ∈ TB := tb_in 79 (by decide +kernel) (by decide +kernel)
set_option maxRecDepth 20000 in
theorem w_77 : Cond.methodLinkNest "VaryStore" 18 ⟨"VaryStore$Shelf", "<init>", "()V"⟩ "VaryStore" ∈ NB := nb_in 77 (by decide +kernel) (by decide +kernel)
set_option maxRecDepth 20000 in
theorem w_78 : Cond.instanceMethod ⟨"VaryStore$Shelf", "<init>", "()V"⟩ ∈ TB := tb_in 78 (by decide +kernel) (by decide +kernel)
set_option maxRecDepth 20000 in
theorem w_139 : Cond.fieldLink "VaryStore" 19 "VaryStore" "shelf" "LVaryStore$Shelf;"  ∈ TB := tb_in 139 (by decide +kernel) (by decide +kernel)
set_option maxRecDepth 20000 in
theorem w_94 : Cond.classLink "VaryStore" 23 "VaryStore$Text" ∈ TB := tb_in 94 (by decide +kernel) (by decide +kernel)
set_option maxRecDepth 20000 in
theorem w_96 : Cond.methodLinkNest "VaryStore" 25 ⟨"VaryStore$Text", "<init>", "()V"⟩ "VaryStore" ∈ NB := nb_in 96 (by decide +kernel) (by decide +kernel)
set_option maxRecDepth 20000 in
theorem w_140 : Cond.fieldLink "VaryStore" 26 "VaryStore" "request" "LVaryStore$Text;"  ∈ TB := tb_in 140 (by decide +kernel) (by decide +kernel)
set_option maxRecDepth 20000 in
theorem w_141 : Cond.fieldLink "VaryStore" 30 "VaryStore" "draft" "LVaryStore$Text;"  ∈ TB := tb_in 141 (by decide +kernel) (by decide +kernel)
set_option maxRecDepth 20000 in
theorem w_142 : Cond.fieldLink "VaryStore" 33 "VaryStore" "faultPlace" "I"  ∈ TB := tb_in 142 (by decide +kernel) (by decide +kernel)
set_option maxRecDepth 20000 in
theorem w_143 : Cond.fieldLink "VaryStore" 37 "VaryStore" "time" "I"  ∈ TB := tb_in 143 (by decide +kernel) (by decide +kernel)
set_option maxRecDepth 20000 in
theorem w_144 : Cond.fieldLink "VaryStore" 40 "VaryStore" "name" "LVaryStore$Row;"  ∈ TB := tb_in 144 (by decide +kernel) (by decide +kernel)
set_option maxRecDepth 20000 in
theorem w_145 : Cond.fieldLink "VaryStore" 43 "VaryStore" "value" "LVaryStore$Row;"  ∈ TB := tb_in 145 (by decide +kernel) (by decide +kernel)
set_option maxRecDepth 20000 in
theorem w_119 : Cond.classLink "VaryStore" 46 "VaryStore$Items" ∈ TB := tb_in 119 (by decide +kernel) (by decide +kernel)
set_option maxRecDepth 20000 in
theorem w_121 : Cond.methodLinkNest "VaryStore" 48 ⟨"VaryStore$Items", "<init>", "()V"⟩ "VaryStore" ∈ NB := nb_in 121 (by decide +kernel) (by decide +kernel)
set_option maxRecDepth 20000 in
theorem w_146 : Cond.fieldLink "VaryStore" 49 "VaryStore" "words" "LVaryStore$Items;"  ∈ TB := tb_in 146 (by decide +kernel) (by decide +kernel)
set_option maxRecDepth 20000 in
theorem w_147 : Cond.fieldLink "VaryStore" 53 "VaryStore" "left" "LVaryStore$Items;"  ∈ TB := tb_in 147 (by decide +kernel) (by decide +kernel)
set_option maxRecDepth 20000 in
theorem w_148 : Cond.fieldLink "VaryStore" 56 "VaryStore" "right" "LVaryStore$Items;"  ∈ TB := tb_in 148 (by decide +kernel) (by decide +kernel)
set_option maxRecDepth 20000 in
theorem w_233 : Cond.code ⟨"VaryStore$Row", "clear", "()V"⟩ prog_3_method_2_code 1 none ∈ TB := tb_in 233 (by decide +kernel) (by decide +kernel)
set_option maxRecDepth 20000 in
theorem w_230 : Cond.methodLink "VaryStore$Row" 38 ⟨"VaryStore$Row", "clear", "()V"⟩ ∈ TB := tb_in 230 (by decide +kernel) (by decide +kernel)
set_option maxRecDepth 20000 in
theorem w_231 : Cond.instanceMethod ⟨"VaryStore$Row", "clear", "()V"⟩ ∈ TB := tb_in 231 (by decide +kernel) (by decide +kernel)
set_option maxRecDepth 20000 in
theorem w_232 : Cond.selects "VaryStore$Row" ⟨"VaryStore$Row", "clear", "()V"⟩ ⟨"VaryStore$Row", "clear", "()V"⟩ ∈ TB := tb_in 232 (by decide +kernel) (by decide +kernel)
set_option maxRecDepth 20000 in
theorem w_237 : Cond.code ⟨"VaryStore$Row", "addPart", "(LVaryStore$Row;II)V"⟩ prog_3_method_4_code 5 none ∈ TB := tb_in 237 (by decide +kernel) (by decide +kernel)
set_option maxRecDepth 20000 in
theorem w_234 : Cond.methodLink "VaryStore$Row" 41 ⟨"VaryStore$Row", "addPart", "(LVaryStore$Row;II)V"⟩ ∈ TB := tb_in 234 (by decide +kernel) (by decide +kernel)
set_option maxRecDepth 20000 in
theorem w_235 : Cond.instanceMethod ⟨"VaryStore$Row", "addPart", "(LVaryStore$Row;II)V"⟩ ∈ TB := tb_in 235 (by decide +kernel) (by decide +kernel)
set_option maxRecDepth 20000 in
theorem w_236 : Cond.selects "VaryStore$Row" ⟨"VaryStore$Row", "addPart", "(LVaryStore$Row;II)V"⟩ ⟨"VaryStore$Row", "addPart", "(LVaryStore$Row;II)V"⟩ ∈ TB := tb_in 236 (by decide +kernel) (by decide +kernel)
set_option maxRecDepth 100000 in
theorem uw_Ro : ∀ w ∈ u_ws R_Ro F_Ro 2, w ∈ TB := by decide +kernel
set_option maxRecDepth 100000 in
theorem fa_Ro_9 : FA "VaryStore$Row" 9 2 0 R_Ro F_Ro 2 t_Ro := ⟨rfl, uw_Ro, by decide, to_Ro, n_Ro, Or.inl w_64⟩
set_option maxRecDepth 100000 in
theorem fa_Ro_15 : FA "VaryStore$Row" 15 2 1 R_Ro F_Ro 2 t_Ro := ⟨rfl, uw_Ro, by decide, to_Ro, n_Ro, Or.inl w_65⟩
set_option maxRecDepth 100000 in
theorem uw_It : ∀ w ∈ u_ws R_It F_It 3, w ∈ TB := by decide +kernel
set_option maxRecDepth 100000 in
theorem fa_It_12 : FA "VaryStore$Items" 12 1 0 R_It F_It 3 t_It := ⟨rfl, uw_It, by decide, to_It, n_It, Or.inl w_127⟩
set_option maxRecDepth 100000 in
theorem fa_It_18 : FA "VaryStore$Items" 18 1 1 R_It F_It 3 t_It := ⟨rfl, uw_It, by decide, to_It, n_It, Or.inl w_128⟩
set_option maxRecDepth 100000 in
theorem fa_It_22 : FA "VaryStore$Items" 22 1 2 R_It F_It 3 t_It := ⟨rfl, uw_It, by decide, to_It, n_It, Or.inl w_129⟩
set_option maxRecDepth 100000 in
theorem uw_Te : ∀ w ∈ u_ws R_Te F_Te 5, w ∈ TB := by decide +kernel
set_option maxRecDepth 100000 in
theorem fa_Te_12 : FA "VaryStore$Text" 12 4 0 R_Te F_Te 5 t_Te := ⟨rfl, uw_Te, by decide, to_Te, n_Te, Or.inl w_102⟩
set_option maxRecDepth 100000 in
theorem fa_Te_18 : FA "VaryStore$Text" 18 4 1 R_Te F_Te 5 t_Te := ⟨rfl, uw_Te, by decide, to_Te, n_Te, Or.inl w_103⟩
set_option maxRecDepth 100000 in
theorem fa_Te_22 : FA "VaryStore$Text" 22 4 2 R_Te F_Te 5 t_Te := ⟨rfl, uw_Te, by decide, to_Te, n_Te, Or.inl w_104⟩
set_option maxRecDepth 100000 in
theorem fa_Te_25 : FA "VaryStore$Text" 25 4 3 R_Te F_Te 5 t_Te := ⟨rfl, uw_Te, by decide, to_Te, n_Te, Or.inl w_105⟩
set_option maxRecDepth 100000 in
theorem fa_Te_28 : FA "VaryStore$Text" 28 4 4 R_Te F_Te 5 t_Te := ⟨rfl, uw_Te, by decide, to_Te, n_Te, Or.inl w_106⟩
set_option maxRecDepth 100000 in
theorem uw_Sh : ∀ w ∈ u_ws R_Sh F_Sh 3, w ∈ TB := by decide +kernel
set_option maxRecDepth 100000 in
theorem fa_Sh_11 : FA "VaryStore$Shelf" 11 3 0 R_Sh F_Sh 3 t_Sh := ⟨rfl, uw_Sh, by decide, to_Sh, n_Sh, Or.inl w_83⟩
set_option maxRecDepth 100000 in
theorem fa_Sh_17 : FA "VaryStore$Shelf" 17 3 1 R_Sh F_Sh 3 t_Sh := ⟨rfl, uw_Sh, by decide, to_Sh, n_Sh, Or.inl w_84⟩
set_option maxRecDepth 100000 in
theorem fa_Sh_21 : FA "VaryStore$Shelf" 21 3 2 R_Sh F_Sh 3 t_Sh := ⟨rfl, uw_Sh, by decide, to_Sh, n_Sh, Or.inl w_86⟩
set_option maxRecDepth 100000 in
theorem uw_Th : ∀ w ∈ u_ws R_Th F_Th 13, w ∈ TB := by decide +kernel
set_option maxRecDepth 100000 in
theorem fa_Th_12 : FA "VaryStore$Thing" 12 5 0 R_Th F_Th 13 t_Th := ⟨rfl, uw_Th, by decide, to_Th, n_Th, Or.inl w_527⟩
set_option maxRecDepth 100000 in
theorem fa_Th_21 : FA "VaryStore$Thing" 21 5 1 R_Th F_Th 13 t_Th := ⟨rfl, uw_Th, by decide, to_Th, n_Th, Or.inl w_529⟩
set_option maxRecDepth 100000 in
theorem fa_Th_28 : FA "VaryStore$Thing" 28 5 2 R_Th F_Th 13 t_Th := ⟨rfl, uw_Th, by decide, to_Th, n_Th, Or.inl w_531⟩
set_option maxRecDepth 100000 in
theorem fa_Th_32 : FA "VaryStore$Thing" 32 5 3 R_Th F_Th 13 t_Th := ⟨rfl, uw_Th, by decide, to_Th, n_Th, Or.inl w_533⟩
set_option maxRecDepth 100000 in
theorem fa_Th_36 : FA "VaryStore$Thing" 36 5 4 R_Th F_Th 13 t_Th := ⟨rfl, uw_Th, by decide, to_Th, n_Th, Or.inl w_535⟩
set_option maxRecDepth 100000 in
theorem fa_Th_39 : FA "VaryStore$Thing" 39 5 5 R_Th F_Th 13 t_Th := ⟨rfl, uw_Th, by decide, to_Th, n_Th, Or.inl w_537⟩
set_option maxRecDepth 100000 in
theorem fa_Th_42 : FA "VaryStore$Thing" 42 5 6 R_Th F_Th 13 t_Th := ⟨rfl, uw_Th, by decide, to_Th, n_Th, Or.inl w_539⟩
set_option maxRecDepth 100000 in
theorem fa_Th_46 : FA "VaryStore$Thing" 46 5 7 R_Th F_Th 13 t_Th := ⟨rfl, uw_Th, by decide, to_Th, n_Th, Or.inl w_541⟩
set_option maxRecDepth 100000 in
theorem fa_Th_49 : FA "VaryStore$Thing" 49 5 8 R_Th F_Th 13 t_Th := ⟨rfl, uw_Th, by decide, to_Th, n_Th, Or.inl w_542⟩
set_option maxRecDepth 100000 in
theorem fa_Th_52 : FA "VaryStore$Thing" 52 5 9 R_Th F_Th 13 t_Th := ⟨rfl, uw_Th, by decide, to_Th, n_Th, Or.inl w_544⟩
set_option maxRecDepth 100000 in
theorem fa_Th_55 : FA "VaryStore$Thing" 55 5 10 R_Th F_Th 13 t_Th := ⟨rfl, uw_Th, by decide, to_Th, n_Th, Or.inl w_546⟩
set_option maxRecDepth 100000 in
theorem fa_Th_58 : FA "VaryStore$Thing" 58 5 11 R_Th F_Th 13 t_Th := ⟨rfl, uw_Th, by decide, to_Th, n_Th, Or.inl w_548⟩
set_option maxRecDepth 100000 in
theorem fa_Th_61 : FA "VaryStore$Thing" 61 5 12 R_Th F_Th 13 t_Th := ⟨rfl, uw_Th, by decide, to_Th, n_Th, Or.inl w_550⟩
set_option maxRecDepth 100000 in
theorem uw_VS : ∀ w ∈ u_ws R_VS F_VS 11, w ∈ TB := by decide +kernel
set_option maxRecDepth 100000 in
theorem fa_VS_12 : FA "VaryStore" 12 0 0 R_VS F_VS 11 t_VS := ⟨rfl, uw_VS, by decide, to_VS, n_VS, Or.inl w_138⟩
set_option maxRecDepth 100000 in
theorem fa_VS_19 : FA "VaryStore" 19 0 1 R_VS F_VS 11 t_VS := ⟨rfl, uw_VS, by decide, to_VS, n_VS, Or.inl w_139⟩
set_option maxRecDepth 100000 in
theorem fa_VS_26 : FA "VaryStore" 26 0 2 R_VS F_VS 11 t_VS := ⟨rfl, uw_VS, by decide, to_VS, n_VS, Or.inl w_140⟩
set_option maxRecDepth 100000 in
theorem fa_VS_30 : FA "VaryStore" 30 0 3 R_VS F_VS 11 t_VS := ⟨rfl, uw_VS, by decide, to_VS, n_VS, Or.inl w_141⟩
set_option maxRecDepth 100000 in
theorem fa_VS_33 : FA "VaryStore" 33 0 4 R_VS F_VS 11 t_VS := ⟨rfl, uw_VS, by decide, to_VS, n_VS, Or.inl w_142⟩
set_option maxRecDepth 100000 in
theorem fa_VS_37 : FA "VaryStore" 37 0 5 R_VS F_VS 11 t_VS := ⟨rfl, uw_VS, by decide, to_VS, n_VS, Or.inl w_143⟩
set_option maxRecDepth 100000 in
theorem fa_VS_40 : FA "VaryStore" 40 0 6 R_VS F_VS 11 t_VS := ⟨rfl, uw_VS, by decide, to_VS, n_VS, Or.inl w_144⟩
set_option maxRecDepth 100000 in
theorem fa_VS_43 : FA "VaryStore" 43 0 7 R_VS F_VS 11 t_VS := ⟨rfl, uw_VS, by decide, to_VS, n_VS, Or.inl w_145⟩
set_option maxRecDepth 100000 in
theorem fa_VS_49 : FA "VaryStore" 49 0 8 R_VS F_VS 11 t_VS := ⟨rfl, uw_VS, by decide, to_VS, n_VS, Or.inl w_146⟩
set_option maxRecDepth 100000 in
theorem fa_VS_53 : FA "VaryStore" 53 0 9 R_VS F_VS 11 t_VS := ⟨rfl, uw_VS, by decide, to_VS, n_VS, Or.inl w_147⟩
set_option maxRecDepth 100000 in
theorem fa_VS_56 : FA "VaryStore" 56 0 10 R_VS F_VS 11 t_VS := ⟨rfl, uw_VS, by decide, to_VS, n_VS, Or.inl w_148⟩
def k_Ro_init : MS := ("VaryStore$Row", b_Ro_init, 1, none, "<init>", { frames := 1, cells := 1, slots := 300, locals := 12 }, [])
set_option maxRecDepth 100000 in
set_option maxHeartbeats 4000000 in
theorem c_Ro_init (Γ : GE) (a : Nat) {M : HM}  (p0 : M (a) = some (.inr (2, [.null, .int (iI (0))]))) : CT Γ k_Ro_init y_Ro_init [.ref (a)] M (a + 1) (fun v M' n' => a + 2 = n' ∧ (∀ q, q ≠ a + 1 → q ≠ a → M' q = M q) ∧ v = none ∧ M' (a + 1) = some (.inl (Γ.2.2.1 0, 300, .inl (fun _ => iI 0))) ∧ M' (a) = some (.inr (2, [.ref (a + 1), .int (iI (0))]))) := by
  refine CT.of (by decide) rfl rfl 0 rfl (Nat.le_of_ble_eq_true rfl) rfl ?_
  refine g_aload_n d_Ro_init_0 rfl ?_
  refine g_objInit d_Ro_init_1 w_63 w_56 w_57 (by decide) (Nat.le_of_ble_eq_true rfl) ?_
  refine g_aload_n d_Ro_init_4 rfl ?_
  refine g_sipush d_Ro_init_5 (by decide) ?_
  refine g_newac (k := 300) d_Ro_init_8 w_74 (by decide) (by decide) (by decide) ?_
  refine g_putF fa_Ro_9 d_Ro_init_10 ((hu_ne (by omega)).trans p0) (Nat.le_of_ble_eq_true rfl) rfl w_64 rfl rfl rfl rfl ?_
  refine g_aload_n d_Ro_init_13 rfl ?_
  refine g_iconst d_Ro_init_14 ?_
  refine g_put fa_Ro_15 d_Ro_init_15 (hu_same _ _ _) (Nat.le_of_ble_eq_true rfl) rfl rfl rfl ?_
  refine g_vret d_Ro_init_18 rfl ?_ (by decide) (by decide)
  exact ⟨rfl, fun q e0 e1 => ((hu_ne (by omega)).trans ((hu_ne (by omega)).trans ((hu_ne (by omega)).trans rfl))), rfl, ((hu_ne (by omega)).trans ((hu_ne (by omega)).trans (hu_same _ _ _))), (hu_same _ _ _)⟩
def k_It_init : MS := ("VaryStore$Items", b_It_init, 1, none, "<init>", { frames := 2, cells := 3, slots := 452, locals := 32 }, [])
set_option maxRecDepth 100000 in
set_option maxHeartbeats 4000000 in
theorem c_It_init (Γ : GE) (a : Nat) {M : HM}  (p0 : M (a) = some (.inr (1, [.null, .null, .int (iI (0))]))) : CT Γ k_It_init y_It_init [.ref (a)] M (a + 1) (fun v M' n' => a + 4 = n' ∧ (∀ q, q ≠ a + 1 → q ≠ a + 2 → q ≠ a → q ≠ a + 3 → M' q = M q) ∧ v = none ∧ M' (a + 1) = some (.inr (2, [.ref (a + 2), .int (iI (0))])) ∧ M' (a + 2) = some (.inl (Γ.2.2.1 0, 300, .inl (fun _ => iI 0))) ∧ M' (a) = some (.inr (1, [.ref (a + 1), .ref (a + 3), .int (iI (0))])) ∧ M' (a + 3) = some (.inl (Γ.2.2.1 1, 150, .inl (fun _ => iI 0)))) := by
  refine CT.of (by decide) rfl rfl 0 rfl (Nat.le_of_ble_eq_true rfl) rfl ?_
  refine g_aload_n d_It_init_0 rfl ?_
  refine g_objInit d_It_init_1 w_124 w_56 w_57 (by decide) (Nat.le_of_ble_eq_true rfl) ?_
  refine g_aload_n d_It_init_4 rfl ?_
  refine g_new (ci := 2) t_Ro [.null, .int (iI (0))] rfl uw_Ro to_Ro (fun j hj => by rcases (show j = 0 ∨ j = 1 by omega) with rfl | rfl <;> rfl) d_It_init_5 w_125 w_59 w_31 (by decide) (by decide) ?_
  refine g_dup d_It_init_8 rfl ?_
  refine g_callIN0 (ν := k_Ro_init) ⟨⟨"VaryStore", w_126⟩, w_31, w_62, by decide, by decide, by decide +kernel⟩ w_61 rfl rfl (c_Ro_init Γ (a + 1)  (hu_same _ _ _)) d_It_init_9 ⟨⟨by decide, by decide⟩, ⟨by decide, by decide⟩⟩ (Nat.le_of_ble_eq_true rfl) (fun v1 M1 n1 hQ1 hn1 hd1 => ?_)
  obtain ⟨rfl, hf1, rfl, hw1_0, hw1_1⟩ := hQ1
  refine g_putF fa_It_12 d_It_init_12 ((hf1 (a) (by omega) (by omega)).trans ((hu_ne (by omega)).trans p0)) (Nat.le_of_ble_eq_true rfl) rfl w_127 rfl rfl rfl rfl ?_
  refine g_aload_n d_It_init_15 rfl ?_
  refine g_sipush d_It_init_16 (by decide) ?_
  refine g_newai (k := 150) d_It_init_19 w_118 (by decide) (by decide) (by decide) ?_
  refine g_putF fa_It_18 d_It_init_21 ((hu_ne (by omega)).trans (hu_same _ _ _)) (Nat.le_of_ble_eq_true rfl) rfl w_128 rfl rfl rfl rfl ?_
  refine g_aload_n d_It_init_24 rfl ?_
  refine g_iconst d_It_init_25 ?_
  refine g_put fa_It_22 d_It_init_26 (hu_same _ _ _) (Nat.le_of_ble_eq_true rfl) rfl rfl rfl ?_
  refine g_vret d_It_init_29 rfl ?_ (by decide) (by decide)
  exact ⟨rfl, fun q e0 e1 e2 e3 => ((hu_ne (by omega)).trans ((hu_ne (by omega)).trans ((hu_ne (by omega)).trans ((hu_ne (by omega)).trans ((hf1 q (by omega) (by omega)).trans ((hu_ne (by omega)).trans rfl)))))), rfl, ((hu_ne (by omega)).trans ((hu_ne (by omega)).trans ((hu_ne (by omega)).trans ((hu_ne (by omega)).trans hw1_1)))), ((hu_ne (by omega)).trans ((hu_ne (by omega)).trans ((hu_ne (by omega)).trans ((hu_ne (by omega)).trans hw1_0)))), (hu_same _ _ _), ((hu_ne (by omega)).trans ((hu_ne (by omega)).trans (hu_same _ _ _)))⟩
def k_Te_init : MS := ("VaryStore$Text", b_Te_init, 1, none, "<init>", { frames := 2, cells := 5, slots := 602, locals := 32 }, [])
set_option maxRecDepth 100000 in
set_option maxHeartbeats 4000000 in
theorem c_Te_init (Γ : GE) (a : Nat) {M : HM}  (p0 : M (a) = some (.inr (4, [.null, .null, .null, .null, .int (iI (0))]))) : CT Γ k_Te_init y_Te_init [.ref (a)] M (a + 1) (fun v M' n' => a + 6 = n' ∧ (∀ q, q ≠ a + 1 → q ≠ a + 2 → q ≠ a → q ≠ a + 3 → q ≠ a + 4 → q ≠ a + 5 → M' q = M q) ∧ v = none ∧ M' (a + 1) = some (.inr (2, [.ref (a + 2), .int (iI (0))])) ∧ M' (a + 2) = some (.inl (Γ.2.2.1 0, 300, .inl (fun _ => iI 0))) ∧ M' (a) = some (.inr (4, [.ref (a + 1), .ref (a + 3), .ref (a + 4), .ref (a + 5), .int (iI (0))])) ∧ M' (a + 3) = some (.inl (Γ.2.2.1 1, 100, .inl (fun _ => iI 0))) ∧ M' (a + 4) = some (.inl (Γ.2.2.1 1, 100, .inl (fun _ => iI 0))) ∧ M' (a + 5) = some (.inl (Γ.2.2.1 1, 100, .inl (fun _ => iI 0)))) := by
  refine CT.of (by decide) rfl rfl 0 rfl (Nat.le_of_ble_eq_true rfl) rfl ?_
  refine g_aload_n d_Te_init_0 rfl ?_
  refine g_objInit d_Te_init_1 w_99 w_56 w_57 (by decide) (Nat.le_of_ble_eq_true rfl) ?_
  refine g_aload_n d_Te_init_4 rfl ?_
  refine g_new (ci := 2) t_Ro [.null, .int (iI (0))] rfl uw_Ro to_Ro (fun j hj => by rcases (show j = 0 ∨ j = 1 by omega) with rfl | rfl <;> rfl) d_Te_init_5 w_100 w_59 w_31 (by decide) (by decide) ?_
  refine g_dup d_Te_init_8 rfl ?_
  refine g_callIN0 (ν := k_Ro_init) ⟨⟨"VaryStore", w_101⟩, w_31, w_62, by decide, by decide, by decide +kernel⟩ w_61 rfl rfl (c_Ro_init Γ (a + 1)  (hu_same _ _ _)) d_Te_init_9 ⟨⟨by decide, by decide⟩, ⟨by decide, by decide⟩⟩ (Nat.le_of_ble_eq_true rfl) (fun v1 M1 n1 hQ1 hn1 hd1 => ?_)
  obtain ⟨rfl, hf1, rfl, hw1_0, hw1_1⟩ := hQ1
  refine g_putF fa_Te_12 d_Te_init_12 ((hf1 (a) (by omega) (by omega)).trans ((hu_ne (by omega)).trans p0)) (Nat.le_of_ble_eq_true rfl) rfl w_102 rfl rfl rfl rfl ?_
  refine g_aload_n d_Te_init_15 rfl ?_
  refine g_bipush d_Te_init_16 (by decide) ?_
  refine g_newai (k := 100) d_Te_init_18 w_118 (by decide) (by decide) (by decide) ?_
  refine g_putF fa_Te_18 d_Te_init_20 ((hu_ne (by omega)).trans (hu_same _ _ _)) (Nat.le_of_ble_eq_true rfl) rfl w_103 rfl rfl rfl rfl ?_
  refine g_aload_n d_Te_init_23 rfl ?_
  refine g_bipush d_Te_init_24 (by decide) ?_
  refine g_newai (k := 100) d_Te_init_26 w_118 (by decide) (by decide) (by decide) ?_
  refine g_putF fa_Te_22 d_Te_init_28 ((hu_ne (by omega)).trans (hu_same _ _ _)) (Nat.le_of_ble_eq_true rfl) rfl w_104 rfl rfl rfl rfl ?_
  refine g_aload_n d_Te_init_31 rfl ?_
  refine g_bipush d_Te_init_32 (by decide) ?_
  refine g_newai (k := 100) d_Te_init_34 w_118 (by decide) (by decide) (by decide) ?_
  refine g_putF fa_Te_25 d_Te_init_36 ((hu_ne (by omega)).trans (hu_same _ _ _)) (Nat.le_of_ble_eq_true rfl) rfl w_105 rfl rfl rfl rfl ?_
  refine g_aload_n d_Te_init_39 rfl ?_
  refine g_iconst d_Te_init_40 ?_
  refine g_put fa_Te_28 d_Te_init_41 (hu_same _ _ _) (Nat.le_of_ble_eq_true rfl) rfl rfl rfl ?_
  refine g_vret d_Te_init_44 rfl ?_ (by decide) (by decide)
  exact ⟨rfl, fun q e0 e1 e2 e3 e4 e5 => ((hu_ne (by omega)).trans ((hu_ne (by omega)).trans ((hu_ne (by omega)).trans ((hu_ne (by omega)).trans ((hu_ne (by omega)).trans ((hu_ne (by omega)).trans ((hu_ne (by omega)).trans ((hu_ne (by omega)).trans ((hf1 q (by omega) (by omega)).trans ((hu_ne (by omega)).trans rfl)))))))))), rfl, ((hu_ne (by omega)).trans ((hu_ne (by omega)).trans ((hu_ne (by omega)).trans ((hu_ne (by omega)).trans ((hu_ne (by omega)).trans ((hu_ne (by omega)).trans ((hu_ne (by omega)).trans ((hu_ne (by omega)).trans hw1_1)))))))), ((hu_ne (by omega)).trans ((hu_ne (by omega)).trans ((hu_ne (by omega)).trans ((hu_ne (by omega)).trans ((hu_ne (by omega)).trans ((hu_ne (by omega)).trans ((hu_ne (by omega)).trans ((hu_ne (by omega)).trans hw1_0)))))))), (hu_same _ _ _), ((hu_ne (by omega)).trans ((hu_ne (by omega)).trans ((hu_ne (by omega)).trans ((hu_ne (by omega)).trans ((hu_ne (by omega)).trans ((hu_ne (by omega)).trans (hu_same _ _ _))))))), ((hu_ne (by omega)).trans ((hu_ne (by omega)).trans ((hu_ne (by omega)).trans ((hu_ne (by omega)).trans (hu_same _ _ _))))), ((hu_ne (by omega)).trans ((hu_ne (by omega)).trans (hu_same _ _ _)))⟩
def k_Sh_init : MS := ("VaryStore$Shelf", b_Sh_init, 1, none, "<init>", { frames := 1, cells := 1, slots := 25, locals := 12 }, [])
set_option maxRecDepth 100000 in
set_option maxHeartbeats 4000000 in
theorem c_Sh_init (Γ : GE) (a : Nat) {M : HM}  (p0 : M (a) = some (.inr (3, [.null, .int (iI (0)), .int (iI (0))]))) : CT Γ k_Sh_init y_Sh_init [.ref (a)] M (a + 1) (fun v M' n' => a + 2 = n' ∧ (∀ q, q ≠ a + 1 → q ≠ a → M' q = M q) ∧ v = none ∧ M' (a + 1) = some (.inl (Γ.2.2.1 2, 25, .inr (.inr (.inr (.inr (fun _ => none)))))) ∧ M' (a) = some (.inr (3, [.ref (a + 1), .int (iI (0)), .int (iI (0))]))) := by
  refine CT.of (by decide) rfl rfl 0 rfl (Nat.le_of_ble_eq_true rfl) rfl ?_
  refine g_aload_n d_Sh_init_0 rfl ?_
  refine g_objInit d_Sh_init_1 w_80 w_56 w_57 (by decide) (Nat.le_of_ble_eq_true rfl) ?_
  refine g_aload_n d_Sh_init_4 rfl ?_
  refine g_bipush d_Sh_init_5 (by decide) ?_
  refine g_anew (k := 25) 2 rfl d_Sh_init_7 w_81 w_82 (by decide) (by decide) (by decide) ?_
  refine g_putF fa_Sh_11 d_Sh_init_10 ((hu_ne (by omega)).trans p0) (Nat.le_of_ble_eq_true rfl) rfl w_83 rfl rfl rfl rfl ?_
  refine g_aload_n d_Sh_init_13 rfl ?_
  refine g_iconst d_Sh_init_14 ?_
  refine g_put fa_Sh_17 d_Sh_init_15 (hu_same _ _ _) (Nat.le_of_ble_eq_true rfl) rfl rfl rfl ?_
  refine g_aload_n d_Sh_init_18 rfl ?_
  refine g_iconst d_Sh_init_19 ?_
  refine g_put fa_Sh_21 d_Sh_init_20 (hu_same _ _ _) (Nat.le_of_ble_eq_true rfl) rfl rfl rfl ?_
  refine g_vret d_Sh_init_23 rfl ?_ (by decide) (by decide)
  exact ⟨rfl, fun q e0 e1 => ((hu_ne (by omega)).trans ((hu_ne (by omega)).trans ((hu_ne (by omega)).trans ((hu_ne (by omega)).trans rfl)))), rfl, ((hu_ne (by omega)).trans ((hu_ne (by omega)).trans ((hu_ne (by omega)).trans (hu_same _ _ _)))), (hu_same _ _ _)⟩
def k_Th_init : MS := ("VaryStore$Thing", b_Th_init, 1, none, "<init>", { frames := 3, cells := 12, slots := 1364, locals := 52 }, [])
set_option maxRecDepth 100000 in
set_option maxHeartbeats 4000000 in
theorem c_Th_init (Γ : GE) (a : Nat) {M : HM}  (p0 : M (a) = some (.inr (5, [.null, .null, .null, .int (iI (0)), .int (iI (0)), .int (iI (0)), .int (iI (0)), .int (iI (0)), .int (iI (0)), .int (iI (0)), .int (iI (0)), .int (iI (0)), .int (iI (0))]))) : CT Γ k_Th_init y_Th_init [.ref (a)] M (a + 1) (fun v M' n' => a + 13 = n' ∧ (∀ q, q ≠ a + 1 → q ≠ a + 2 → q ≠ a → q ≠ a + 3 → q ≠ a + 4 → q ≠ a + 5 → q ≠ a + 6 → q ≠ a + 7 → q ≠ a + 8 → q ≠ a + 9 → q ≠ a + 10 → q ≠ a + 11 → q ≠ a + 12 → M' q = M q) ∧ v = none ∧ M' (a + 1) = some (.inr (2, [.ref (a + 2), .int (iI (0))])) ∧ M' (a + 2) = some (.inl (Γ.2.2.1 0, 300, .inl (fun _ => iI 0))) ∧ M' (a) = some (.inr (5, [.ref (a + 1), .ref (a + 3), .ref (a + 7), .int (iI (0)), .int (iI ((-2))), .int (iI ((-2))), .int (iI (0)), .int (iI (0)), .int (iI (0)), .int (iI (0)), .int (iI (0)), .int (iI (0)), .int (iI (0))])) ∧ M' (a + 3) = some (.inr (1, [.ref (a + 4), .ref (a + 6), .int (iI (0))])) ∧ M' (a + 4) = some (.inr (2, [.ref (a + 5), .int (iI (0))])) ∧ M' (a + 5) = some (.inl (Γ.2.2.1 0, 300, .inl (fun _ => iI 0))) ∧ M' (a + 6) = some (.inl (Γ.2.2.1 1, 150, .inl (fun _ => iI 0))) ∧ M' (a + 7) = some (.inr (4, [.ref (a + 8), .ref (a + 10), .ref (a + 11), .ref (a + 12), .int (iI (0))])) ∧ M' (a + 8) = some (.inr (2, [.ref (a + 9), .int (iI (0))])) ∧ M' (a + 9) = some (.inl (Γ.2.2.1 0, 300, .inl (fun _ => iI 0))) ∧ M' (a + 10) = some (.inl (Γ.2.2.1 1, 100, .inl (fun _ => iI 0))) ∧ M' (a + 11) = some (.inl (Γ.2.2.1 1, 100, .inl (fun _ => iI 0))) ∧ M' (a + 12) = some (.inl (Γ.2.2.1 1, 100, .inl (fun _ => iI 0)))) := by
  refine CT.of (by decide) rfl rfl 0 rfl (Nat.le_of_ble_eq_true rfl) rfl ?_
  refine g_aload_n d_Th_init_0 rfl ?_
  refine g_objInit d_Th_init_1 w_520 w_56 w_57 (by decide) (Nat.le_of_ble_eq_true rfl) ?_
  refine g_aload_n d_Th_init_4 rfl ?_
  refine g_new (ci := 2) t_Ro [.null, .int (iI (0))] rfl uw_Ro to_Ro (fun j hj => by rcases (show j = 0 ∨ j = 1 by omega) with rfl | rfl <;> rfl) d_Th_init_5 w_521 w_59 w_31 (by decide) (by decide) ?_
  refine g_dup d_Th_init_8 rfl ?_
  refine g_callIN0 (ν := k_Ro_init) ⟨⟨"VaryStore", w_522⟩, w_31, w_62, by decide, by decide, by decide +kernel⟩ w_61 rfl rfl (c_Ro_init Γ (a + 1)  (hu_same _ _ _)) d_Th_init_9 ⟨⟨by decide, by decide⟩, ⟨by decide, by decide⟩⟩ (Nat.le_of_ble_eq_true rfl) (fun v1 M1 n1 hQ1 hn1 hd1 => ?_)
  obtain ⟨rfl, hf1, rfl, hw1_0, hw1_1⟩ := hQ1
  refine g_putF fa_Th_12 d_Th_init_12 ((hf1 (a) (by omega) (by omega)).trans ((hu_ne (by omega)).trans p0)) (Nat.le_of_ble_eq_true rfl) rfl w_527 rfl rfl rfl rfl ?_
  refine g_aload_n d_Th_init_15 rfl ?_
  refine g_new (ci := 1) t_It [.null, .null, .int (iI (0))] rfl uw_It to_It (fun j hj => by rcases (show j = 0 ∨ j = 1 ∨ j = 2 by omega) with rfl | rfl | rfl <;> rfl) d_Th_init_16 w_523 w_120 w_34 (by decide) (by decide) ?_
  refine g_dup d_Th_init_19 rfl ?_
  refine g_callIN0 (ν := k_It_init) ⟨⟨"VaryStore", w_524⟩, w_34, w_123, by decide, by decide, by decide +kernel⟩ w_122 rfl rfl (c_It_init Γ (a + 3)  (hu_same _ _ _)) d_Th_init_20 ⟨⟨by decide, by decide⟩, ⟨by decide, by decide⟩⟩ (Nat.le_of_ble_eq_true rfl) (fun v2 M2 n2 hQ2 hn2 hd2 => ?_)
  obtain ⟨rfl, hf2, rfl, hw2_0, hw2_1, hw2_2, hw2_3⟩ := hQ2
  refine g_putF fa_Th_21 d_Th_init_23 ((hf2 (a) (by omega) (by omega) (by omega) (by omega)).trans ((hu_ne (by omega)).trans (hu_same _ _ _))) (Nat.le_of_ble_eq_true rfl) rfl w_529 rfl rfl rfl rfl ?_
  refine g_aload_n d_Th_init_26 rfl ?_
  refine g_new (ci := 4) t_Te [.null, .null, .null, .null, .int (iI (0))] rfl uw_Te to_Te (fun j hj => by rcases (show j = 0 ∨ j = 1 ∨ j = 2 ∨ j = 3 ∨ j = 4 by omega) with rfl | rfl | rfl | rfl | rfl <;> rfl) d_Th_init_27 w_525 w_95 w_33 (by decide) (by decide) ?_
  refine g_dup d_Th_init_30 rfl ?_
  refine g_callIN0 (ν := k_Te_init) ⟨⟨"VaryStore", w_526⟩, w_33, w_98, by decide, by decide, by decide +kernel⟩ w_97 rfl rfl (c_Te_init Γ (a + 7)  (hu_same _ _ _)) d_Th_init_31 ⟨⟨by decide, by decide⟩, ⟨by decide, by decide⟩⟩ (Nat.le_of_ble_eq_true rfl) (fun v3 M3 n3 hQ3 hn3 hd3 => ?_)
  obtain ⟨rfl, hf3, rfl, hw3_0, hw3_1, hw3_2, hw3_3, hw3_4, hw3_5⟩ := hQ3
  refine g_putF fa_Th_28 d_Th_init_34 ((hf3 (a) (by omega) (by omega) (by omega) (by omega) (by omega) (by omega)).trans ((hu_ne (by omega)).trans (hu_same _ _ _))) (Nat.le_of_ble_eq_true rfl) rfl w_531 rfl rfl rfl rfl ?_
  refine g_aload_n d_Th_init_37 rfl ?_
  refine g_iconst d_Th_init_38 ?_
  refine g_put fa_Th_32 d_Th_init_39 (hu_same _ _ _) (Nat.le_of_ble_eq_true rfl) rfl rfl rfl ?_
  refine g_aload_n d_Th_init_42 rfl ?_
  refine g_bipush d_Th_init_43 (by decide) ?_
  refine g_put fa_Th_36 d_Th_init_45 (hu_same _ _ _) (Nat.le_of_ble_eq_true rfl) rfl rfl rfl ?_
  refine g_aload_n d_Th_init_48 rfl ?_
  refine g_bipush d_Th_init_49 (by decide) ?_
  refine g_put fa_Th_39 d_Th_init_51 (hu_same _ _ _) (Nat.le_of_ble_eq_true rfl) rfl rfl rfl ?_
  refine g_aload_n d_Th_init_54 rfl ?_
  refine g_iconst d_Th_init_55 ?_
  refine g_put fa_Th_42 d_Th_init_56 (hu_same _ _ _) (Nat.le_of_ble_eq_true rfl) rfl (by first | rfl | decide) rfl ?_
  refine g_aload_n d_Th_init_59 rfl ?_
  refine g_iconst d_Th_init_60 ?_
  refine g_put fa_Th_46 d_Th_init_61 (hu_same _ _ _) (Nat.le_of_ble_eq_true rfl) rfl (by first | rfl | decide) rfl ?_
  refine g_aload_n d_Th_init_64 rfl ?_
  refine g_iconst d_Th_init_65 ?_
  refine g_put fa_Th_49 d_Th_init_66 (hu_same _ _ _) (Nat.le_of_ble_eq_true rfl) rfl (by first | rfl | decide) rfl ?_
  refine g_aload_n d_Th_init_69 rfl ?_
  refine g_iconst d_Th_init_70 ?_
  refine g_put fa_Th_52 d_Th_init_71 (hu_same _ _ _) (Nat.le_of_ble_eq_true rfl) rfl rfl rfl ?_
  refine g_aload_n d_Th_init_74 rfl ?_
  refine g_iconst d_Th_init_75 ?_
  refine g_put fa_Th_55 d_Th_init_76 (hu_same _ _ _) (Nat.le_of_ble_eq_true rfl) rfl rfl rfl ?_
  refine g_aload_n d_Th_init_79 rfl ?_
  refine g_iconst d_Th_init_80 ?_
  refine g_put fa_Th_58 d_Th_init_81 (hu_same _ _ _) (Nat.le_of_ble_eq_true rfl) rfl rfl rfl ?_
  refine g_aload_n d_Th_init_84 rfl ?_
  refine g_iconst d_Th_init_85 ?_
  refine g_put fa_Th_61 d_Th_init_86 (hu_same _ _ _) (Nat.le_of_ble_eq_true rfl) rfl rfl rfl ?_
  refine g_vret d_Th_init_89 rfl ?_ (by decide) (by decide)
  exact ⟨rfl, fun q e0 e1 e2 e3 e4 e5 e6 e7 e8 e9 e10 e11 e12 => ((hu_ne (by omega)).trans ((hu_ne (by omega)).trans ((hu_ne (by omega)).trans ((hu_ne (by omega)).trans ((hu_ne (by omega)).trans ((hu_ne (by omega)).trans ((hu_ne (by omega)).trans ((hu_ne (by omega)).trans ((hu_ne (by omega)).trans ((hu_ne (by omega)).trans ((hu_ne (by omega)).trans ((hf3 q (by omega) (by omega) (by omega) (by omega) (by omega) (by omega)).trans ((hu_ne (by omega)).trans ((hu_ne (by omega)).trans ((hf2 q (by omega) (by omega) (by omega) (by omega)).trans ((hu_ne (by omega)).trans ((hu_ne (by omega)).trans ((hf1 q (by omega) (by omega)).trans ((hu_ne (by omega)).trans rfl))))))))))))))))))), rfl, ((hu_ne (by omega)).trans ((hu_ne (by omega)).trans ((hu_ne (by omega)).trans ((hu_ne (by omega)).trans ((hu_ne (by omega)).trans ((hu_ne (by omega)).trans ((hu_ne (by omega)).trans ((hu_ne (by omega)).trans ((hu_ne (by omega)).trans ((hu_ne (by omega)).trans ((hu_ne (by omega)).trans ((hf3 (a + 1) (by omega) (by omega) (by omega) (by omega) (by omega) (by omega)).trans ((hu_ne (by omega)).trans ((hu_ne (by omega)).trans ((hf2 (a + 1) (by omega) (by omega) (by omega) (by omega)).trans ((hu_ne (by omega)).trans ((hu_ne (by omega)).trans hw1_1))))))))))))))))), ((hu_ne (by omega)).trans ((hu_ne (by omega)).trans ((hu_ne (by omega)).trans ((hu_ne (by omega)).trans ((hu_ne (by omega)).trans ((hu_ne (by omega)).trans ((hu_ne (by omega)).trans ((hu_ne (by omega)).trans ((hu_ne (by omega)).trans ((hu_ne (by omega)).trans ((hu_ne (by omega)).trans ((hf3 (a + 2) (by omega) (by omega) (by omega) (by omega) (by omega) (by omega)).trans ((hu_ne (by omega)).trans ((hu_ne (by omega)).trans ((hf2 (a + 2) (by omega) (by omega) (by omega) (by omega)).trans ((hu_ne (by omega)).trans ((hu_ne (by omega)).trans hw1_0))))))))))))))))), (hu_same _ _ _), ((hu_ne (by omega)).trans ((hu_ne (by omega)).trans ((hu_ne (by omega)).trans ((hu_ne (by omega)).trans ((hu_ne (by omega)).trans ((hu_ne (by omega)).trans ((hu_ne (by omega)).trans ((hu_ne (by omega)).trans ((hu_ne (by omega)).trans ((hu_ne (by omega)).trans ((hu_ne (by omega)).trans ((hf3 (a + 3) (by omega) (by omega) (by omega) (by omega) (by omega) (by omega)).trans ((hu_ne (by omega)).trans ((hu_ne (by omega)).trans hw2_2)))))))))))))), ((hu_ne (by omega)).trans ((hu_ne (by omega)).trans ((hu_ne (by omega)).trans ((hu_ne (by omega)).trans ((hu_ne (by omega)).trans ((hu_ne (by omega)).trans ((hu_ne (by omega)).trans ((hu_ne (by omega)).trans ((hu_ne (by omega)).trans ((hu_ne (by omega)).trans ((hu_ne (by omega)).trans ((hf3 (a + 4) (by omega) (by omega) (by omega) (by omega) (by omega) (by omega)).trans ((hu_ne (by omega)).trans ((hu_ne (by omega)).trans hw2_0)))))))))))))), ((hu_ne (by omega)).trans ((hu_ne (by omega)).trans ((hu_ne (by omega)).trans ((hu_ne (by omega)).trans ((hu_ne (by omega)).trans ((hu_ne (by omega)).trans ((hu_ne (by omega)).trans ((hu_ne (by omega)).trans ((hu_ne (by omega)).trans ((hu_ne (by omega)).trans ((hu_ne (by omega)).trans ((hf3 (a + 5) (by omega) (by omega) (by omega) (by omega) (by omega) (by omega)).trans ((hu_ne (by omega)).trans ((hu_ne (by omega)).trans hw2_1)))))))))))))), ((hu_ne (by omega)).trans ((hu_ne (by omega)).trans ((hu_ne (by omega)).trans ((hu_ne (by omega)).trans ((hu_ne (by omega)).trans ((hu_ne (by omega)).trans ((hu_ne (by omega)).trans ((hu_ne (by omega)).trans ((hu_ne (by omega)).trans ((hu_ne (by omega)).trans ((hu_ne (by omega)).trans ((hf3 (a + 6) (by omega) (by omega) (by omega) (by omega) (by omega) (by omega)).trans ((hu_ne (by omega)).trans ((hu_ne (by omega)).trans hw2_3)))))))))))))), ((hu_ne (by omega)).trans ((hu_ne (by omega)).trans ((hu_ne (by omega)).trans ((hu_ne (by omega)).trans ((hu_ne (by omega)).trans ((hu_ne (by omega)).trans ((hu_ne (by omega)).trans ((hu_ne (by omega)).trans ((hu_ne (by omega)).trans ((hu_ne (by omega)).trans ((hu_ne (by omega)).trans hw3_2))))))))))), ((hu_ne (by omega)).trans ((hu_ne (by omega)).trans ((hu_ne (by omega)).trans ((hu_ne (by omega)).trans ((hu_ne (by omega)).trans ((hu_ne (by omega)).trans ((hu_ne (by omega)).trans ((hu_ne (by omega)).trans ((hu_ne (by omega)).trans ((hu_ne (by omega)).trans ((hu_ne (by omega)).trans hw3_0))))))))))), ((hu_ne (by omega)).trans ((hu_ne (by omega)).trans ((hu_ne (by omega)).trans ((hu_ne (by omega)).trans ((hu_ne (by omega)).trans ((hu_ne (by omega)).trans ((hu_ne (by omega)).trans ((hu_ne (by omega)).trans ((hu_ne (by omega)).trans ((hu_ne (by omega)).trans ((hu_ne (by omega)).trans hw3_1))))))))))), ((hu_ne (by omega)).trans ((hu_ne (by omega)).trans ((hu_ne (by omega)).trans ((hu_ne (by omega)).trans ((hu_ne (by omega)).trans ((hu_ne (by omega)).trans ((hu_ne (by omega)).trans ((hu_ne (by omega)).trans ((hu_ne (by omega)).trans ((hu_ne (by omega)).trans ((hu_ne (by omega)).trans hw3_3))))))))))), ((hu_ne (by omega)).trans ((hu_ne (by omega)).trans ((hu_ne (by omega)).trans ((hu_ne (by omega)).trans ((hu_ne (by omega)).trans ((hu_ne (by omega)).trans ((hu_ne (by omega)).trans ((hu_ne (by omega)).trans ((hu_ne (by omega)).trans ((hu_ne (by omega)).trans ((hu_ne (by omega)).trans hw3_4))))))))))), ((hu_ne (by omega)).trans ((hu_ne (by omega)).trans ((hu_ne (by omega)).trans ((hu_ne (by omega)).trans ((hu_ne (by omega)).trans ((hu_ne (by omega)).trans ((hu_ne (by omega)).trans ((hu_ne (by omega)).trans ((hu_ne (by omega)).trans ((hu_ne (by omega)).trans ((hu_ne (by omega)).trans hw3_5)))))))))))⟩
def k_VS_init : MS := ("VaryStore", b_VS_init, 1, none, "<init>", { frames := 3, cells := 32, slots := 3513, locals := 52 }, [])
set_option maxRecDepth 100000 in
set_option maxHeartbeats 4000000 in
theorem c_VS_init (Γ : GE) (a : Nat) {M : HM}  (p0 : M (a) = some (.inr (0, [.null, .null, .null, .null, .int (iI (0)), .int (iI (0)), .null, .null, .null, .null, .null]))) : CT Γ k_VS_init y_VS_init [.ref (a)] M (a + 1) (fun v M' n' => a + 33 = n' ∧ (∀ q, q ≠ a + 1 → q ≠ a + 2 → q ≠ a → q ≠ a + 3 → q ≠ a + 4 → q ≠ a + 5 → q ≠ a + 6 → q ≠ a + 7 → q ≠ a + 8 → q ≠ a + 9 → q ≠ a + 10 → q ≠ a + 11 → q ≠ a + 12 → q ≠ a + 13 → q ≠ a + 14 → q ≠ a + 15 → q ≠ a + 16 → q ≠ a + 17 → q ≠ a + 18 → q ≠ a + 19 → q ≠ a + 20 → q ≠ a + 21 → q ≠ a + 22 → q ≠ a + 23 → q ≠ a + 24 → q ≠ a + 25 → q ≠ a + 26 → q ≠ a + 27 → q ≠ a + 28 → q ≠ a + 29 → q ≠ a + 30 → q ≠ a + 31 → q ≠ a + 32 → M' q = M q) ∧ v = none ∧ M' (a + 1) = some (.inr (2, [.ref (a + 2), .int (iI (0))])) ∧ M' (a + 2) = some (.inl (Γ.2.2.1 0, 300, .inl (fun _ => iI 0))) ∧ M' (a) = some (.inr (0, [.ref (a + 1), .ref (a + 3), .ref (a + 5), .ref (a + 11), .int (iI ((-1))), .int (iI (0)), .ref (a + 17), .ref (a + 19), .ref (a + 21), .ref (a + 25), .ref (a + 29)])) ∧ M' (a + 3) = some (.inr (3, [.ref (a + 4), .int (iI (0)), .int (iI (0))])) ∧ M' (a + 4) = some (.inl (Γ.2.2.1 2, 25, .inr (.inr (.inr (.inr (fun _ => none)))))) ∧ M' (a + 5) = some (.inr (4, [.ref (a + 6), .ref (a + 8), .ref (a + 9), .ref (a + 10), .int (iI (0))])) ∧ M' (a + 6) = some (.inr (2, [.ref (a + 7), .int (iI (0))])) ∧ M' (a + 7) = some (.inl (Γ.2.2.1 0, 300, .inl (fun _ => iI 0))) ∧ M' (a + 8) = some (.inl (Γ.2.2.1 1, 100, .inl (fun _ => iI 0))) ∧ M' (a + 9) = some (.inl (Γ.2.2.1 1, 100, .inl (fun _ => iI 0))) ∧ M' (a + 10) = some (.inl (Γ.2.2.1 1, 100, .inl (fun _ => iI 0))) ∧ M' (a + 11) = some (.inr (4, [.ref (a + 12), .ref (a + 14), .ref (a + 15), .ref (a + 16), .int (iI (0))])) ∧ M' (a + 12) = some (.inr (2, [.ref (a + 13), .int (iI (0))])) ∧ M' (a + 13) = some (.inl (Γ.2.2.1 0, 300, .inl (fun _ => iI 0))) ∧ M' (a + 14) = some (.inl (Γ.2.2.1 1, 100, .inl (fun _ => iI 0))) ∧ M' (a + 15) = some (.inl (Γ.2.2.1 1, 100, .inl (fun _ => iI 0))) ∧ M' (a + 16) = some (.inl (Γ.2.2.1 1, 100, .inl (fun _ => iI 0))) ∧ M' (a + 17) = some (.inr (2, [.ref (a + 18), .int (iI (0))])) ∧ M' (a + 18) = some (.inl (Γ.2.2.1 0, 300, .inl (fun _ => iI 0))) ∧ M' (a + 19) = some (.inr (2, [.ref (a + 20), .int (iI (0))])) ∧ M' (a + 20) = some (.inl (Γ.2.2.1 0, 300, .inl (fun _ => iI 0))) ∧ M' (a + 21) = some (.inr (1, [.ref (a + 22), .ref (a + 24), .int (iI (0))])) ∧ M' (a + 22) = some (.inr (2, [.ref (a + 23), .int (iI (0))])) ∧ M' (a + 23) = some (.inl (Γ.2.2.1 0, 300, .inl (fun _ => iI 0))) ∧ M' (a + 24) = some (.inl (Γ.2.2.1 1, 150, .inl (fun _ => iI 0))) ∧ M' (a + 25) = some (.inr (1, [.ref (a + 26), .ref (a + 28), .int (iI (0))])) ∧ M' (a + 26) = some (.inr (2, [.ref (a + 27), .int (iI (0))])) ∧ M' (a + 27) = some (.inl (Γ.2.2.1 0, 300, .inl (fun _ => iI 0))) ∧ M' (a + 28) = some (.inl (Γ.2.2.1 1, 150, .inl (fun _ => iI 0))) ∧ M' (a + 29) = some (.inr (1, [.ref (a + 30), .ref (a + 32), .int (iI (0))])) ∧ M' (a + 30) = some (.inr (2, [.ref (a + 31), .int (iI (0))])) ∧ M' (a + 31) = some (.inl (Γ.2.2.1 0, 300, .inl (fun _ => iI 0))) ∧ M' (a + 32) = some (.inl (Γ.2.2.1 1, 150, .inl (fun _ => iI 0)))) := by
  refine CT.of (by decide) rfl rfl 0 rfl (Nat.le_of_ble_eq_true rfl) rfl ?_
  refine g_aload_n d_VS_init_0 rfl ?_
  refine g_objInit d_VS_init_1 w_55 w_56 w_57 (by decide) (Nat.le_of_ble_eq_true rfl) ?_
  refine g_aload_n d_VS_init_4 rfl ?_
  refine g_new (ci := 2) t_Ro [.null, .int (iI (0))] rfl uw_Ro to_Ro (fun j hj => by rcases (show j = 0 ∨ j = 1 by omega) with rfl | rfl <;> rfl) d_VS_init_5 w_58 w_59 w_31 (by decide) (by decide) ?_
  refine g_dup d_VS_init_8 rfl ?_
  refine g_callIN0 (ν := k_Ro_init) ⟨⟨"VaryStore", w_60⟩, w_31, w_62, by decide, by decide, by decide +kernel⟩ w_61 rfl rfl (c_Ro_init Γ (a + 1)  (hu_same _ _ _)) d_VS_init_9 ⟨⟨by decide, by decide⟩, ⟨by decide, by decide⟩⟩ (Nat.le_of_ble_eq_true rfl) (fun v1 M1 n1 hQ1 hn1 hd1 => ?_)
  obtain ⟨rfl, hf1, rfl, hw1_0, hw1_1⟩ := hQ1
  refine g_putF fa_VS_12 d_VS_init_12 ((hf1 (a) (by omega) (by omega)).trans ((hu_ne (by omega)).trans p0)) (Nat.le_of_ble_eq_true rfl) rfl w_138 rfl rfl rfl rfl ?_
  refine g_aload_n d_VS_init_15 rfl ?_
  refine g_new (ci := 3) t_Sh [.null, .int (iI (0)), .int (iI (0))] rfl uw_Sh to_Sh (fun j hj => by rcases (show j = 0 ∨ j = 1 ∨ j = 2 by omega) with rfl | rfl | rfl <;> rfl) d_VS_init_16 w_75 w_76 w_32 (by decide) (by decide) ?_
  refine g_dup d_VS_init_19 rfl ?_
  refine g_callIN0 (ν := k_Sh_init) ⟨⟨"VaryStore", w_77⟩, w_32, w_79, by decide, by decide, by decide +kernel⟩ w_78 rfl rfl (c_Sh_init Γ (a + 3)  (hu_same _ _ _)) d_VS_init_20 ⟨⟨by decide, by decide⟩, ⟨by decide, by decide⟩⟩ (Nat.le_of_ble_eq_true rfl) (fun v2 M2 n2 hQ2 hn2 hd2 => ?_)
  obtain ⟨rfl, hf2, rfl, hw2_0, hw2_1⟩ := hQ2
  refine g_putF fa_VS_19 d_VS_init_23 ((hf2 (a) (by omega) (by omega)).trans ((hu_ne (by omega)).trans (hu_same _ _ _))) (Nat.le_of_ble_eq_true rfl) rfl w_139 rfl rfl rfl rfl ?_
  refine g_aload_n d_VS_init_26 rfl ?_
  refine g_new (ci := 4) t_Te [.null, .null, .null, .null, .int (iI (0))] rfl uw_Te to_Te (fun j hj => by rcases (show j = 0 ∨ j = 1 ∨ j = 2 ∨ j = 3 ∨ j = 4 by omega) with rfl | rfl | rfl | rfl | rfl <;> rfl) d_VS_init_27 w_94 w_95 w_33 (by decide) (by decide) ?_
  refine g_dup d_VS_init_30 rfl ?_
  refine g_callIN0 (ν := k_Te_init) ⟨⟨"VaryStore", w_96⟩, w_33, w_98, by decide, by decide, by decide +kernel⟩ w_97 rfl rfl (c_Te_init Γ (a + 5)  (hu_same _ _ _)) d_VS_init_31 ⟨⟨by decide, by decide⟩, ⟨by decide, by decide⟩⟩ (Nat.le_of_ble_eq_true rfl) (fun v3 M3 n3 hQ3 hn3 hd3 => ?_)
  obtain ⟨rfl, hf3, rfl, hw3_0, hw3_1, hw3_2, hw3_3, hw3_4, hw3_5⟩ := hQ3
  refine g_put fa_VS_26 d_VS_init_34 ((hf3 (a) (by omega) (by omega) (by omega) (by omega) (by omega) (by omega)).trans ((hu_ne (by omega)).trans (hu_same _ _ _))) (Nat.le_of_ble_eq_true rfl) rfl rfl rfl ?_
  refine g_aload_n d_VS_init_37 rfl ?_
  refine g_new (ci := 4) t_Te [.null, .null, .null, .null, .int (iI (0))] rfl uw_Te to_Te (fun j hj => by rcases (show j = 0 ∨ j = 1 ∨ j = 2 ∨ j = 3 ∨ j = 4 by omega) with rfl | rfl | rfl | rfl | rfl <;> rfl) d_VS_init_38 w_94 w_95 w_33 (by decide) (by decide) ?_
  refine g_dup d_VS_init_41 rfl ?_
  refine g_callIN0 (ν := k_Te_init) ⟨⟨"VaryStore", w_96⟩, w_33, w_98, by decide, by decide, by decide +kernel⟩ w_97 rfl rfl (c_Te_init Γ (a + 11)  (hu_same _ _ _)) d_VS_init_42 ⟨⟨by decide, by decide⟩, ⟨by decide, by decide⟩⟩ (Nat.le_of_ble_eq_true rfl) (fun v4 M4 n4 hQ4 hn4 hd4 => ?_)
  obtain ⟨rfl, hf4, rfl, hw4_0, hw4_1, hw4_2, hw4_3, hw4_4, hw4_5⟩ := hQ4
  refine g_put fa_VS_30 d_VS_init_45 ((hf4 (a) (by omega) (by omega) (by omega) (by omega) (by omega) (by omega)).trans ((hu_ne (by omega)).trans (hu_same _ _ _))) (Nat.le_of_ble_eq_true rfl) rfl rfl rfl ?_
  refine g_aload_n d_VS_init_48 rfl ?_
  refine g_iconst d_VS_init_49 ?_
  refine g_put fa_VS_33 d_VS_init_50 (hu_same _ _ _) (Nat.le_of_ble_eq_true rfl) rfl rfl rfl ?_
  refine g_aload_n d_VS_init_53 rfl ?_
  refine g_iconst d_VS_init_54 ?_
  refine g_put fa_VS_37 d_VS_init_55 (hu_same _ _ _) (Nat.le_of_ble_eq_true rfl) rfl rfl rfl ?_
  refine g_aload_n d_VS_init_58 rfl ?_
  refine g_new (ci := 2) t_Ro [.null, .int (iI (0))] rfl uw_Ro to_Ro (fun j hj => by rcases (show j = 0 ∨ j = 1 by omega) with rfl | rfl <;> rfl) d_VS_init_59 w_58 w_59 w_31 (by decide) (by decide) ?_
  refine g_dup d_VS_init_62 rfl ?_
  refine g_callIN0 (ν := k_Ro_init) ⟨⟨"VaryStore", w_60⟩, w_31, w_62, by decide, by decide, by decide +kernel⟩ w_61 rfl rfl (c_Ro_init Γ (a + 17)  (hu_same _ _ _)) d_VS_init_63 ⟨⟨by decide, by decide⟩, ⟨by decide, by decide⟩⟩ (Nat.le_of_ble_eq_true rfl) (fun v5 M5 n5 hQ5 hn5 hd5 => ?_)
  obtain ⟨rfl, hf5, rfl, hw5_0, hw5_1⟩ := hQ5
  refine g_putF fa_VS_40 d_VS_init_66 ((hf5 (a) (by omega) (by omega)).trans ((hu_ne (by omega)).trans (hu_same _ _ _))) (Nat.le_of_ble_eq_true rfl) rfl w_144 rfl rfl rfl rfl ?_
  refine g_aload_n d_VS_init_69 rfl ?_
  refine g_new (ci := 2) t_Ro [.null, .int (iI (0))] rfl uw_Ro to_Ro (fun j hj => by rcases (show j = 0 ∨ j = 1 by omega) with rfl | rfl <;> rfl) d_VS_init_70 w_58 w_59 w_31 (by decide) (by decide) ?_
  refine g_dup d_VS_init_73 rfl ?_
  refine g_callIN0 (ν := k_Ro_init) ⟨⟨"VaryStore", w_60⟩, w_31, w_62, by decide, by decide, by decide +kernel⟩ w_61 rfl rfl (c_Ro_init Γ (a + 19)  (hu_same _ _ _)) d_VS_init_74 ⟨⟨by decide, by decide⟩, ⟨by decide, by decide⟩⟩ (Nat.le_of_ble_eq_true rfl) (fun v6 M6 n6 hQ6 hn6 hd6 => ?_)
  obtain ⟨rfl, hf6, rfl, hw6_0, hw6_1⟩ := hQ6
  refine g_putF fa_VS_43 d_VS_init_77 ((hf6 (a) (by omega) (by omega)).trans ((hu_ne (by omega)).trans (hu_same _ _ _))) (Nat.le_of_ble_eq_true rfl) rfl w_145 rfl rfl rfl rfl ?_
  refine g_aload_n d_VS_init_80 rfl ?_
  refine g_new (ci := 1) t_It [.null, .null, .int (iI (0))] rfl uw_It to_It (fun j hj => by rcases (show j = 0 ∨ j = 1 ∨ j = 2 by omega) with rfl | rfl | rfl <;> rfl) d_VS_init_81 w_119 w_120 w_34 (by decide) (by decide) ?_
  refine g_dup d_VS_init_84 rfl ?_
  refine g_callIN0 (ν := k_It_init) ⟨⟨"VaryStore", w_121⟩, w_34, w_123, by decide, by decide, by decide +kernel⟩ w_122 rfl rfl (c_It_init Γ (a + 21)  (hu_same _ _ _)) d_VS_init_85 ⟨⟨by decide, by decide⟩, ⟨by decide, by decide⟩⟩ (Nat.le_of_ble_eq_true rfl) (fun v7 M7 n7 hQ7 hn7 hd7 => ?_)
  obtain ⟨rfl, hf7, rfl, hw7_0, hw7_1, hw7_2, hw7_3⟩ := hQ7
  refine g_putF fa_VS_49 d_VS_init_88 ((hf7 (a) (by omega) (by omega) (by omega) (by omega)).trans ((hu_ne (by omega)).trans (hu_same _ _ _))) (Nat.le_of_ble_eq_true rfl) rfl w_146 rfl rfl rfl rfl ?_
  refine g_aload_n d_VS_init_91 rfl ?_
  refine g_new (ci := 1) t_It [.null, .null, .int (iI (0))] rfl uw_It to_It (fun j hj => by rcases (show j = 0 ∨ j = 1 ∨ j = 2 by omega) with rfl | rfl | rfl <;> rfl) d_VS_init_92 w_119 w_120 w_34 (by decide) (by decide) ?_
  refine g_dup d_VS_init_95 rfl ?_
  refine g_callIN0 (ν := k_It_init) ⟨⟨"VaryStore", w_121⟩, w_34, w_123, by decide, by decide, by decide +kernel⟩ w_122 rfl rfl (c_It_init Γ (a + 25)  (hu_same _ _ _)) d_VS_init_96 ⟨⟨by decide, by decide⟩, ⟨by decide, by decide⟩⟩ (Nat.le_of_ble_eq_true rfl) (fun v8 M8 n8 hQ8 hn8 hd8 => ?_)
  obtain ⟨rfl, hf8, rfl, hw8_0, hw8_1, hw8_2, hw8_3⟩ := hQ8
  refine g_putF fa_VS_53 d_VS_init_99 ((hf8 (a) (by omega) (by omega) (by omega) (by omega)).trans ((hu_ne (by omega)).trans (hu_same _ _ _))) (Nat.le_of_ble_eq_true rfl) rfl w_147 rfl rfl rfl rfl ?_
  refine g_aload_n d_VS_init_102 rfl ?_
  refine g_new (ci := 1) t_It [.null, .null, .int (iI (0))] rfl uw_It to_It (fun j hj => by rcases (show j = 0 ∨ j = 1 ∨ j = 2 by omega) with rfl | rfl | rfl <;> rfl) d_VS_init_103 w_119 w_120 w_34 (by decide) (by decide) ?_
  refine g_dup d_VS_init_106 rfl ?_
  refine g_callIN0 (ν := k_It_init) ⟨⟨"VaryStore", w_121⟩, w_34, w_123, by decide, by decide, by decide +kernel⟩ w_122 rfl rfl (c_It_init Γ (a + 29)  (hu_same _ _ _)) d_VS_init_107 ⟨⟨by decide, by decide⟩, ⟨by decide, by decide⟩⟩ (Nat.le_of_ble_eq_true rfl) (fun v9 M9 n9 hQ9 hn9 hd9 => ?_)
  obtain ⟨rfl, hf9, rfl, hw9_0, hw9_1, hw9_2, hw9_3⟩ := hQ9
  refine g_putF fa_VS_56 d_VS_init_110 ((hf9 (a) (by omega) (by omega) (by omega) (by omega)).trans ((hu_ne (by omega)).trans (hu_same _ _ _))) (Nat.le_of_ble_eq_true rfl) rfl w_148 rfl rfl rfl rfl ?_
  refine g_vret d_VS_init_113 rfl ?_ (by decide) (by decide)
  exact ⟨rfl, fun q e0 e1 e2 e3 e4 e5 e6 e7 e8 e9 e10 e11 e12 e13 e14 e15 e16 e17 e18 e19 e20 e21 e22 e23 e24 e25 e26 e27 e28 e29 e30 e31 e32 => ((hu_ne (by omega)).trans ((hf9 q (by omega) (by omega) (by omega) (by omega)).trans ((hu_ne (by omega)).trans ((hu_ne (by omega)).trans ((hf8 q (by omega) (by omega) (by omega) (by omega)).trans ((hu_ne (by omega)).trans ((hu_ne (by omega)).trans ((hf7 q (by omega) (by omega) (by omega) (by omega)).trans ((hu_ne (by omega)).trans ((hu_ne (by omega)).trans ((hf6 q (by omega) (by omega)).trans ((hu_ne (by omega)).trans ((hu_ne (by omega)).trans ((hf5 q (by omega) (by omega)).trans ((hu_ne (by omega)).trans ((hu_ne (by omega)).trans ((hu_ne (by omega)).trans ((hu_ne (by omega)).trans ((hf4 q (by omega) (by omega) (by omega) (by omega) (by omega) (by omega)).trans ((hu_ne (by omega)).trans ((hu_ne (by omega)).trans ((hf3 q (by omega) (by omega) (by omega) (by omega) (by omega) (by omega)).trans ((hu_ne (by omega)).trans ((hu_ne (by omega)).trans ((hf2 q (by omega) (by omega)).trans ((hu_ne (by omega)).trans ((hu_ne (by omega)).trans ((hf1 q (by omega) (by omega)).trans ((hu_ne (by omega)).trans rfl))))))))))))))))))))))))))))), rfl, ((hu_ne (by omega)).trans ((hf9 (a + 1) (by omega) (by omega) (by omega) (by omega)).trans ((hu_ne (by omega)).trans ((hu_ne (by omega)).trans ((hf8 (a + 1) (by omega) (by omega) (by omega) (by omega)).trans ((hu_ne (by omega)).trans ((hu_ne (by omega)).trans ((hf7 (a + 1) (by omega) (by omega) (by omega) (by omega)).trans ((hu_ne (by omega)).trans ((hu_ne (by omega)).trans ((hf6 (a + 1) (by omega) (by omega)).trans ((hu_ne (by omega)).trans ((hu_ne (by omega)).trans ((hf5 (a + 1) (by omega) (by omega)).trans ((hu_ne (by omega)).trans ((hu_ne (by omega)).trans ((hu_ne (by omega)).trans ((hu_ne (by omega)).trans ((hf4 (a + 1) (by omega) (by omega) (by omega) (by omega) (by omega) (by omega)).trans ((hu_ne (by omega)).trans ((hu_ne (by omega)).trans ((hf3 (a + 1) (by omega) (by omega) (by omega) (by omega) (by omega) (by omega)).trans ((hu_ne (by omega)).trans ((hu_ne (by omega)).trans ((hf2 (a + 1) (by omega) (by omega)).trans ((hu_ne (by omega)).trans ((hu_ne (by omega)).trans hw1_1))))))))))))))))))))))))))), ((hu_ne (by omega)).trans ((hf9 (a + 2) (by omega) (by omega) (by omega) (by omega)).trans ((hu_ne (by omega)).trans ((hu_ne (by omega)).trans ((hf8 (a + 2) (by omega) (by omega) (by omega) (by omega)).trans ((hu_ne (by omega)).trans ((hu_ne (by omega)).trans ((hf7 (a + 2) (by omega) (by omega) (by omega) (by omega)).trans ((hu_ne (by omega)).trans ((hu_ne (by omega)).trans ((hf6 (a + 2) (by omega) (by omega)).trans ((hu_ne (by omega)).trans ((hu_ne (by omega)).trans ((hf5 (a + 2) (by omega) (by omega)).trans ((hu_ne (by omega)).trans ((hu_ne (by omega)).trans ((hu_ne (by omega)).trans ((hu_ne (by omega)).trans ((hf4 (a + 2) (by omega) (by omega) (by omega) (by omega) (by omega) (by omega)).trans ((hu_ne (by omega)).trans ((hu_ne (by omega)).trans ((hf3 (a + 2) (by omega) (by omega) (by omega) (by omega) (by omega) (by omega)).trans ((hu_ne (by omega)).trans ((hu_ne (by omega)).trans ((hf2 (a + 2) (by omega) (by omega)).trans ((hu_ne (by omega)).trans ((hu_ne (by omega)).trans hw1_0))))))))))))))))))))))))))), (hu_same _ _ _), ((hu_ne (by omega)).trans ((hf9 (a + 3) (by omega) (by omega) (by omega) (by omega)).trans ((hu_ne (by omega)).trans ((hu_ne (by omega)).trans ((hf8 (a + 3) (by omega) (by omega) (by omega) (by omega)).trans ((hu_ne (by omega)).trans ((hu_ne (by omega)).trans ((hf7 (a + 3) (by omega) (by omega) (by omega) (by omega)).trans ((hu_ne (by omega)).trans ((hu_ne (by omega)).trans ((hf6 (a + 3) (by omega) (by omega)).trans ((hu_ne (by omega)).trans ((hu_ne (by omega)).trans ((hf5 (a + 3) (by omega) (by omega)).trans ((hu_ne (by omega)).trans ((hu_ne (by omega)).trans ((hu_ne (by omega)).trans ((hu_ne (by omega)).trans ((hf4 (a + 3) (by omega) (by omega) (by omega) (by omega) (by omega) (by omega)).trans ((hu_ne (by omega)).trans ((hu_ne (by omega)).trans ((hf3 (a + 3) (by omega) (by omega) (by omega) (by omega) (by omega) (by omega)).trans ((hu_ne (by omega)).trans ((hu_ne (by omega)).trans hw2_1)))))))))))))))))))))))), ((hu_ne (by omega)).trans ((hf9 (a + 4) (by omega) (by omega) (by omega) (by omega)).trans ((hu_ne (by omega)).trans ((hu_ne (by omega)).trans ((hf8 (a + 4) (by omega) (by omega) (by omega) (by omega)).trans ((hu_ne (by omega)).trans ((hu_ne (by omega)).trans ((hf7 (a + 4) (by omega) (by omega) (by omega) (by omega)).trans ((hu_ne (by omega)).trans ((hu_ne (by omega)).trans ((hf6 (a + 4) (by omega) (by omega)).trans ((hu_ne (by omega)).trans ((hu_ne (by omega)).trans ((hf5 (a + 4) (by omega) (by omega)).trans ((hu_ne (by omega)).trans ((hu_ne (by omega)).trans ((hu_ne (by omega)).trans ((hu_ne (by omega)).trans ((hf4 (a + 4) (by omega) (by omega) (by omega) (by omega) (by omega) (by omega)).trans ((hu_ne (by omega)).trans ((hu_ne (by omega)).trans ((hf3 (a + 4) (by omega) (by omega) (by omega) (by omega) (by omega) (by omega)).trans ((hu_ne (by omega)).trans ((hu_ne (by omega)).trans hw2_0)))))))))))))))))))))))), ((hu_ne (by omega)).trans ((hf9 (a + 5) (by omega) (by omega) (by omega) (by omega)).trans ((hu_ne (by omega)).trans ((hu_ne (by omega)).trans ((hf8 (a + 5) (by omega) (by omega) (by omega) (by omega)).trans ((hu_ne (by omega)).trans ((hu_ne (by omega)).trans ((hf7 (a + 5) (by omega) (by omega) (by omega) (by omega)).trans ((hu_ne (by omega)).trans ((hu_ne (by omega)).trans ((hf6 (a + 5) (by omega) (by omega)).trans ((hu_ne (by omega)).trans ((hu_ne (by omega)).trans ((hf5 (a + 5) (by omega) (by omega)).trans ((hu_ne (by omega)).trans ((hu_ne (by omega)).trans ((hu_ne (by omega)).trans ((hu_ne (by omega)).trans ((hf4 (a + 5) (by omega) (by omega) (by omega) (by omega) (by omega) (by omega)).trans ((hu_ne (by omega)).trans ((hu_ne (by omega)).trans hw3_2))))))))))))))))))))), ((hu_ne (by omega)).trans ((hf9 (a + 6) (by omega) (by omega) (by omega) (by omega)).trans ((hu_ne (by omega)).trans ((hu_ne (by omega)).trans ((hf8 (a + 6) (by omega) (by omega) (by omega) (by omega)).trans ((hu_ne (by omega)).trans ((hu_ne (by omega)).trans ((hf7 (a + 6) (by omega) (by omega) (by omega) (by omega)).trans ((hu_ne (by omega)).trans ((hu_ne (by omega)).trans ((hf6 (a + 6) (by omega) (by omega)).trans ((hu_ne (by omega)).trans ((hu_ne (by omega)).trans ((hf5 (a + 6) (by omega) (by omega)).trans ((hu_ne (by omega)).trans ((hu_ne (by omega)).trans ((hu_ne (by omega)).trans ((hu_ne (by omega)).trans ((hf4 (a + 6) (by omega) (by omega) (by omega) (by omega) (by omega) (by omega)).trans ((hu_ne (by omega)).trans ((hu_ne (by omega)).trans hw3_0))))))))))))))))))))), ((hu_ne (by omega)).trans ((hf9 (a + 7) (by omega) (by omega) (by omega) (by omega)).trans ((hu_ne (by omega)).trans ((hu_ne (by omega)).trans ((hf8 (a + 7) (by omega) (by omega) (by omega) (by omega)).trans ((hu_ne (by omega)).trans ((hu_ne (by omega)).trans ((hf7 (a + 7) (by omega) (by omega) (by omega) (by omega)).trans ((hu_ne (by omega)).trans ((hu_ne (by omega)).trans ((hf6 (a + 7) (by omega) (by omega)).trans ((hu_ne (by omega)).trans ((hu_ne (by omega)).trans ((hf5 (a + 7) (by omega) (by omega)).trans ((hu_ne (by omega)).trans ((hu_ne (by omega)).trans ((hu_ne (by omega)).trans ((hu_ne (by omega)).trans ((hf4 (a + 7) (by omega) (by omega) (by omega) (by omega) (by omega) (by omega)).trans ((hu_ne (by omega)).trans ((hu_ne (by omega)).trans hw3_1))))))))))))))))))))), ((hu_ne (by omega)).trans ((hf9 (a + 8) (by omega) (by omega) (by omega) (by omega)).trans ((hu_ne (by omega)).trans ((hu_ne (by omega)).trans ((hf8 (a + 8) (by omega) (by omega) (by omega) (by omega)).trans ((hu_ne (by omega)).trans ((hu_ne (by omega)).trans ((hf7 (a + 8) (by omega) (by omega) (by omega) (by omega)).trans ((hu_ne (by omega)).trans ((hu_ne (by omega)).trans ((hf6 (a + 8) (by omega) (by omega)).trans ((hu_ne (by omega)).trans ((hu_ne (by omega)).trans ((hf5 (a + 8) (by omega) (by omega)).trans ((hu_ne (by omega)).trans ((hu_ne (by omega)).trans ((hu_ne (by omega)).trans ((hu_ne (by omega)).trans ((hf4 (a + 8) (by omega) (by omega) (by omega) (by omega) (by omega) (by omega)).trans ((hu_ne (by omega)).trans ((hu_ne (by omega)).trans hw3_3))))))))))))))))))))), ((hu_ne (by omega)).trans ((hf9 (a + 9) (by omega) (by omega) (by omega) (by omega)).trans ((hu_ne (by omega)).trans ((hu_ne (by omega)).trans ((hf8 (a + 9) (by omega) (by omega) (by omega) (by omega)).trans ((hu_ne (by omega)).trans ((hu_ne (by omega)).trans ((hf7 (a + 9) (by omega) (by omega) (by omega) (by omega)).trans ((hu_ne (by omega)).trans ((hu_ne (by omega)).trans ((hf6 (a + 9) (by omega) (by omega)).trans ((hu_ne (by omega)).trans ((hu_ne (by omega)).trans ((hf5 (a + 9) (by omega) (by omega)).trans ((hu_ne (by omega)).trans ((hu_ne (by omega)).trans ((hu_ne (by omega)).trans ((hu_ne (by omega)).trans ((hf4 (a + 9) (by omega) (by omega) (by omega) (by omega) (by omega) (by omega)).trans ((hu_ne (by omega)).trans ((hu_ne (by omega)).trans hw3_4))))))))))))))))))))), ((hu_ne (by omega)).trans ((hf9 (a + 10) (by omega) (by omega) (by omega) (by omega)).trans ((hu_ne (by omega)).trans ((hu_ne (by omega)).trans ((hf8 (a + 10) (by omega) (by omega) (by omega) (by omega)).trans ((hu_ne (by omega)).trans ((hu_ne (by omega)).trans ((hf7 (a + 10) (by omega) (by omega) (by omega) (by omega)).trans ((hu_ne (by omega)).trans ((hu_ne (by omega)).trans ((hf6 (a + 10) (by omega) (by omega)).trans ((hu_ne (by omega)).trans ((hu_ne (by omega)).trans ((hf5 (a + 10) (by omega) (by omega)).trans ((hu_ne (by omega)).trans ((hu_ne (by omega)).trans ((hu_ne (by omega)).trans ((hu_ne (by omega)).trans ((hf4 (a + 10) (by omega) (by omega) (by omega) (by omega) (by omega) (by omega)).trans ((hu_ne (by omega)).trans ((hu_ne (by omega)).trans hw3_5))))))))))))))))))))), ((hu_ne (by omega)).trans ((hf9 (a + 11) (by omega) (by omega) (by omega) (by omega)).trans ((hu_ne (by omega)).trans ((hu_ne (by omega)).trans ((hf8 (a + 11) (by omega) (by omega) (by omega) (by omega)).trans ((hu_ne (by omega)).trans ((hu_ne (by omega)).trans ((hf7 (a + 11) (by omega) (by omega) (by omega) (by omega)).trans ((hu_ne (by omega)).trans ((hu_ne (by omega)).trans ((hf6 (a + 11) (by omega) (by omega)).trans ((hu_ne (by omega)).trans ((hu_ne (by omega)).trans ((hf5 (a + 11) (by omega) (by omega)).trans ((hu_ne (by omega)).trans ((hu_ne (by omega)).trans ((hu_ne (by omega)).trans ((hu_ne (by omega)).trans hw4_2)))))))))))))))))), ((hu_ne (by omega)).trans ((hf9 (a + 12) (by omega) (by omega) (by omega) (by omega)).trans ((hu_ne (by omega)).trans ((hu_ne (by omega)).trans ((hf8 (a + 12) (by omega) (by omega) (by omega) (by omega)).trans ((hu_ne (by omega)).trans ((hu_ne (by omega)).trans ((hf7 (a + 12) (by omega) (by omega) (by omega) (by omega)).trans ((hu_ne (by omega)).trans ((hu_ne (by omega)).trans ((hf6 (a + 12) (by omega) (by omega)).trans ((hu_ne (by omega)).trans ((hu_ne (by omega)).trans ((hf5 (a + 12) (by omega) (by omega)).trans ((hu_ne (by omega)).trans ((hu_ne (by omega)).trans ((hu_ne (by omega)).trans ((hu_ne (by omega)).trans hw4_0)))))))))))))))))), ((hu_ne (by omega)).trans ((hf9 (a + 13) (by omega) (by omega) (by omega) (by omega)).trans ((hu_ne (by omega)).trans ((hu_ne (by omega)).trans ((hf8 (a + 13) (by omega) (by omega) (by omega) (by omega)).trans ((hu_ne (by omega)).trans ((hu_ne (by omega)).trans ((hf7 (a + 13) (by omega) (by omega) (by omega) (by omega)).trans ((hu_ne (by omega)).trans ((hu_ne (by omega)).trans ((hf6 (a + 13) (by omega) (by omega)).trans ((hu_ne (by omega)).trans ((hu_ne (by omega)).trans ((hf5 (a + 13) (by omega) (by omega)).trans ((hu_ne (by omega)).trans ((hu_ne (by omega)).trans ((hu_ne (by omega)).trans ((hu_ne (by omega)).trans hw4_1)))))))))))))))))), ((hu_ne (by omega)).trans ((hf9 (a + 14) (by omega) (by omega) (by omega) (by omega)).trans ((hu_ne (by omega)).trans ((hu_ne (by omega)).trans ((hf8 (a + 14) (by omega) (by omega) (by omega) (by omega)).trans ((hu_ne (by omega)).trans ((hu_ne (by omega)).trans ((hf7 (a + 14) (by omega) (by omega) (by omega) (by omega)).trans ((hu_ne (by omega)).trans ((hu_ne (by omega)).trans ((hf6 (a + 14) (by omega) (by omega)).trans ((hu_ne (by omega)).trans ((hu_ne (by omega)).trans ((hf5 (a + 14) (by omega) (by omega)).trans ((hu_ne (by omega)).trans ((hu_ne (by omega)).trans ((hu_ne (by omega)).trans ((hu_ne (by omega)).trans hw4_3)))))))))))))))))), ((hu_ne (by omega)).trans ((hf9 (a + 15) (by omega) (by omega) (by omega) (by omega)).trans ((hu_ne (by omega)).trans ((hu_ne (by omega)).trans ((hf8 (a + 15) (by omega) (by omega) (by omega) (by omega)).trans ((hu_ne (by omega)).trans ((hu_ne (by omega)).trans ((hf7 (a + 15) (by omega) (by omega) (by omega) (by omega)).trans ((hu_ne (by omega)).trans ((hu_ne (by omega)).trans ((hf6 (a + 15) (by omega) (by omega)).trans ((hu_ne (by omega)).trans ((hu_ne (by omega)).trans ((hf5 (a + 15) (by omega) (by omega)).trans ((hu_ne (by omega)).trans ((hu_ne (by omega)).trans ((hu_ne (by omega)).trans ((hu_ne (by omega)).trans hw4_4)))))))))))))))))), ((hu_ne (by omega)).trans ((hf9 (a + 16) (by omega) (by omega) (by omega) (by omega)).trans ((hu_ne (by omega)).trans ((hu_ne (by omega)).trans ((hf8 (a + 16) (by omega) (by omega) (by omega) (by omega)).trans ((hu_ne (by omega)).trans ((hu_ne (by omega)).trans ((hf7 (a + 16) (by omega) (by omega) (by omega) (by omega)).trans ((hu_ne (by omega)).trans ((hu_ne (by omega)).trans ((hf6 (a + 16) (by omega) (by omega)).trans ((hu_ne (by omega)).trans ((hu_ne (by omega)).trans ((hf5 (a + 16) (by omega) (by omega)).trans ((hu_ne (by omega)).trans ((hu_ne (by omega)).trans ((hu_ne (by omega)).trans ((hu_ne (by omega)).trans hw4_5)))))))))))))))))), ((hu_ne (by omega)).trans ((hf9 (a + 17) (by omega) (by omega) (by omega) (by omega)).trans ((hu_ne (by omega)).trans ((hu_ne (by omega)).trans ((hf8 (a + 17) (by omega) (by omega) (by omega) (by omega)).trans ((hu_ne (by omega)).trans ((hu_ne (by omega)).trans ((hf7 (a + 17) (by omega) (by omega) (by omega) (by omega)).trans ((hu_ne (by omega)).trans ((hu_ne (by omega)).trans ((hf6 (a + 17) (by omega) (by omega)).trans ((hu_ne (by omega)).trans ((hu_ne (by omega)).trans hw5_1))))))))))))), ((hu_ne (by omega)).trans ((hf9 (a + 18) (by omega) (by omega) (by omega) (by omega)).trans ((hu_ne (by omega)).trans ((hu_ne (by omega)).trans ((hf8 (a + 18) (by omega) (by omega) (by omega) (by omega)).trans ((hu_ne (by omega)).trans ((hu_ne (by omega)).trans ((hf7 (a + 18) (by omega) (by omega) (by omega) (by omega)).trans ((hu_ne (by omega)).trans ((hu_ne (by omega)).trans ((hf6 (a + 18) (by omega) (by omega)).trans ((hu_ne (by omega)).trans ((hu_ne (by omega)).trans hw5_0))))))))))))), ((hu_ne (by omega)).trans ((hf9 (a + 19) (by omega) (by omega) (by omega) (by omega)).trans ((hu_ne (by omega)).trans ((hu_ne (by omega)).trans ((hf8 (a + 19) (by omega) (by omega) (by omega) (by omega)).trans ((hu_ne (by omega)).trans ((hu_ne (by omega)).trans ((hf7 (a + 19) (by omega) (by omega) (by omega) (by omega)).trans ((hu_ne (by omega)).trans ((hu_ne (by omega)).trans hw6_1)))))))))), ((hu_ne (by omega)).trans ((hf9 (a + 20) (by omega) (by omega) (by omega) (by omega)).trans ((hu_ne (by omega)).trans ((hu_ne (by omega)).trans ((hf8 (a + 20) (by omega) (by omega) (by omega) (by omega)).trans ((hu_ne (by omega)).trans ((hu_ne (by omega)).trans ((hf7 (a + 20) (by omega) (by omega) (by omega) (by omega)).trans ((hu_ne (by omega)).trans ((hu_ne (by omega)).trans hw6_0)))))))))), ((hu_ne (by omega)).trans ((hf9 (a + 21) (by omega) (by omega) (by omega) (by omega)).trans ((hu_ne (by omega)).trans ((hu_ne (by omega)).trans ((hf8 (a + 21) (by omega) (by omega) (by omega) (by omega)).trans ((hu_ne (by omega)).trans ((hu_ne (by omega)).trans hw7_2))))))), ((hu_ne (by omega)).trans ((hf9 (a + 22) (by omega) (by omega) (by omega) (by omega)).trans ((hu_ne (by omega)).trans ((hu_ne (by omega)).trans ((hf8 (a + 22) (by omega) (by omega) (by omega) (by omega)).trans ((hu_ne (by omega)).trans ((hu_ne (by omega)).trans hw7_0))))))), ((hu_ne (by omega)).trans ((hf9 (a + 23) (by omega) (by omega) (by omega) (by omega)).trans ((hu_ne (by omega)).trans ((hu_ne (by omega)).trans ((hf8 (a + 23) (by omega) (by omega) (by omega) (by omega)).trans ((hu_ne (by omega)).trans ((hu_ne (by omega)).trans hw7_1))))))), ((hu_ne (by omega)).trans ((hf9 (a + 24) (by omega) (by omega) (by omega) (by omega)).trans ((hu_ne (by omega)).trans ((hu_ne (by omega)).trans ((hf8 (a + 24) (by omega) (by omega) (by omega) (by omega)).trans ((hu_ne (by omega)).trans ((hu_ne (by omega)).trans hw7_3))))))), ((hu_ne (by omega)).trans ((hf9 (a + 25) (by omega) (by omega) (by omega) (by omega)).trans ((hu_ne (by omega)).trans ((hu_ne (by omega)).trans hw8_2)))), ((hu_ne (by omega)).trans ((hf9 (a + 26) (by omega) (by omega) (by omega) (by omega)).trans ((hu_ne (by omega)).trans ((hu_ne (by omega)).trans hw8_0)))), ((hu_ne (by omega)).trans ((hf9 (a + 27) (by omega) (by omega) (by omega) (by omega)).trans ((hu_ne (by omega)).trans ((hu_ne (by omega)).trans hw8_1)))), ((hu_ne (by omega)).trans ((hf9 (a + 28) (by omega) (by omega) (by omega) (by omega)).trans ((hu_ne (by omega)).trans ((hu_ne (by omega)).trans hw8_3)))), ((hu_ne (by omega)).trans hw9_2), ((hu_ne (by omega)).trans hw9_0), ((hu_ne (by omega)).trans hw9_1), ((hu_ne (by omega)).trans hw9_3)⟩
def k_Ro_clear : MS := ("VaryStore$Row", b_Ro_clear, 1, none, "clear", { frames := 0, cells := 0, slots := 0, locals := 0 }, [])
set_option maxRecDepth 100000 in
set_option maxHeartbeats 4000000 in
theorem c_Ro_clear (Γ : GE) (a : Nat) (x : Nat) (z : Int) {M : HM} {n : Nat}  (p0 : M (a) = some (.inr (2, [.ref (x), .int (iI (z))]))) : CT Γ k_Ro_clear y_Ro_clear [.ref (a)] M (n) (fun v M' n' => n = n' ∧ (∀ q, q ≠ a → M' q = M q) ∧ v = none ∧ M' (a) = some (.inr (2, [.ref (x), .int (iI (0))]))) := by
  refine CT.of (by decide) rfl rfl 0 rfl (Nat.le_of_ble_eq_true rfl) rfl ?_
  refine g_aload_n d_Ro_clear_0 rfl ?_
  refine g_iconst d_Ro_clear_1 ?_
  refine g_put fa_Ro_15 d_Ro_clear_2 p0 (Nat.le_of_ble_eq_true rfl) rfl rfl rfl ?_
  refine g_vret d_Ro_clear_5 rfl ?_ (by decide) (by decide)
  exact ⟨rfl, fun q e0 => ((hu_ne (by omega)).trans rfl), rfl, (hu_same _ _ _)⟩
def k_Ro_addPart0 : MS := ("VaryStore$Row", b_Ro_addPart, 5, none, "addPart", { frames := 0, cells := 0, slots := 0, locals := 0 }, [])
set_option maxRecDepth 100000 in
set_option maxHeartbeats 4000000 in
theorem c_Ro_addPart0 (Γ : GE) (a : Nat) (b : Nat) {M : HM} {n : Nat}   : CT Γ k_Ro_addPart0 y_Ro_addPart [.ref (a), .ref (b), .int (iI (0)), .int (iI (0))] M (n) (fun v M' n' => n = n' ∧ (∀ q, M' q = M q) ∧ v = none) := by
  refine CT.of (by decide) rfl rfl 1 rfl (Nat.le_of_ble_eq_true rfl) rfl ?_
  refine g_iload_n d_Ro_addPart_0 rfl ?_
  refine g_iload_n d_Ro_addPart_1 rfl ?_
  refine g_isub d_Ro_addPart_2 ?_
  refine g_istore d_Ro_addPart_3 (by decide) rfl ?_
  refine g_iload_n d_Ro_addPart_5 rfl ?_
  refine g_if_lt (tgt := 66) d_Ro_addPart_6 (by decide) (fun h1 => False.elim (by omega)) (fun _ => ?_)
  refine g_iload d_Ro_addPart_9 rfl ?_
  refine g_if_le (tgt := 66) d_Ro_addPart_11 (by decide) (fun _ => ?_) (fun h2 => False.elim (by omega))
  refine g_vret d_Ro_addPart_66 rfl ?_ (by decide) (by decide)
  exact ⟨rfl, fun q  => rfl, rfl⟩
def k_Ro_copy0 : MS := ("VaryStore$Row", b_Ro_copy, 2, none, "copy", { frames := 1, cells := 0, slots := 0, locals := 24 }, [])
set_option maxRecDepth 100000 in
set_option maxHeartbeats 4000000 in
theorem c_Ro_copy0 (Γ : GE) (a : Nat) (b : Nat) (z : Int) (f : Nat → Int32) (g : Nat → Int32) {M : HM} {n : Nat} (hab : a + 2 ≤ b ∨ b + 2 ≤ a) (p0 : M (a) = some (.inr (2, [.ref (a + 1), .int (iI (z))]))) (p1 : M (a + 1) = some (.inl (Γ.2.2.1 0, 300, .inl (f)))) (p2 : M (b) = some (.inr (2, [.ref (b + 1), .int (iI (0))]))) (p3 : M (b + 1) = some (.inl (Γ.2.2.1 0, 300, .inl (g)))) : CT Γ k_Ro_copy0 y_Ro_copy [.ref (a), .ref (b)] M (n) (fun v M' n' => n = n' ∧ (∀ q, q ≠ a → M' q = M q) ∧ v = none ∧ M' (a) = some (.inr (2, [.ref (a + 1), .int (iI (0))]))) := by
  refine CT.of (by decide) rfl rfl 0 rfl (Nat.le_of_ble_eq_true rfl) rfl ?_
  refine g_aload_n d_Ro_copy_0 rfl ?_
  refine g_callV0 (ν := k_Ro_clear) ⟨w_230, w_31, w_233, by decide, by decide, by decide +kernel⟩ w_231 w_232 (c_Ro_clear Γ (a) (a + 1) (z)  p0) d_Ro_copy_1 p0 rfl rfl ⟨⟨by decide, by decide⟩, ⟨by decide, by decide⟩⟩ (Nat.le_of_ble_eq_true rfl) (fun v1 M1 n1 hQ1 hn1 hd1 => ?_)
  obtain ⟨rfl, hf1, rfl, hw1_0⟩ := hQ1
  refine g_aload_n d_Ro_copy_4 rfl ?_
  refine g_aload_n d_Ro_copy_5 rfl ?_
  refine g_iconst d_Ro_copy_6 ?_
  refine g_aload_n d_Ro_copy_7 rfl ?_
  refine g_get fa_Ro_15 d_Ro_copy_8 ((hf1 (b) (by omega)).trans p2) rfl ?_
  refine g_callV3 (ν := k_Ro_addPart0) ⟨w_234, w_31, w_237, by decide, by decide, by decide +kernel⟩ w_235 w_236 (c_Ro_addPart0 Γ (a) (b)  ) d_Ro_copy_11 hw1_0 rfl rfl ⟨⟨by decide, by decide⟩, ⟨by decide, by decide⟩⟩ (Nat.le_of_ble_eq_true rfl) (fun v2 M2 n2 hQ2 hn2 hd2 => ?_)
  obtain ⟨rfl, hf2, rfl⟩ := hQ2
  refine g_vret d_Ro_copy_14 rfl ?_ (by decide) (by decide)
  exact ⟨rfl, fun q e0 => ((hf2 q ).trans ((hf1 q (by omega)).trans rfl)), rfl, ((hf2 (a) ).trans hw1_0)⟩
