theorem d_Ro_init_0 : decode b_Ro_init 0 = .ok (.aload_n 0, 1) := by decide +kernel
theorem d_Ro_init_1 : decode b_Ro_init 1 = .ok (.invokespecial 3, 3) := by decide +kernel
theorem d_Ro_init_4 : decode b_Ro_init 4 = .ok (.aload_n 0, 1) := by decide +kernel
theorem d_Ro_init_5 : decode b_Ro_init 5 = .ok (.sipush 300, 3) := by decide +kernel
theorem d_Ro_init_8 : decode b_Ro_init 8 = .ok (.newarray .char, 2) := by decide +kernel
theorem d_Ro_init_10 : decode b_Ro_init 10 = .ok (.putfield 9, 3) := by decide +kernel
theorem d_Ro_init_13 : decode b_Ro_init 13 = .ok (.aload_n 0, 1) := by decide +kernel
theorem d_Ro_init_14 : decode b_Ro_init 14 = .ok (.iconst 0, 1) := by decide +kernel
theorem d_Ro_init_15 : decode b_Ro_init 15 = .ok (.putfield 15, 3) := by decide +kernel
theorem d_Ro_init_18 : decode b_Ro_init 18 = .ok (.return_, 1) := by decide +kernel
theorem d_It_init_0 : decode b_It_init 0 = .ok (.aload_n 0, 1) := by decide +kernel
theorem d_It_init_1 : decode b_It_init 1 = .ok (.invokespecial 3, 3) := by decide +kernel
theorem d_It_init_4 : decode b_It_init 4 = .ok (.aload_n 0, 1) := by decide +kernel
theorem d_It_init_5 : decode b_It_init 5 = .ok (.new 9, 3) := by decide +kernel
theorem d_It_init_8 : decode b_It_init 8 = .ok (.dup, 1) := by decide +kernel
theorem d_It_init_9 : decode b_It_init 9 = .ok (.invokespecial 11, 3) := by decide +kernel
theorem d_It_init_12 : decode b_It_init 12 = .ok (.putfield 12, 3) := by decide +kernel
theorem d_It_init_15 : decode b_It_init 15 = .ok (.aload_n 0, 1) := by decide +kernel
theorem d_It_init_16 : decode b_It_init 16 = .ok (.sipush 150, 3) := by decide +kernel
theorem d_It_init_19 : decode b_It_init 19 = .ok (.newarray .int, 2) := by decide +kernel
theorem d_It_init_21 : decode b_It_init 21 = .ok (.putfield 18, 3) := by decide +kernel
theorem d_It_init_24 : decode b_It_init 24 = .ok (.aload_n 0, 1) := by decide +kernel
theorem d_It_init_25 : decode b_It_init 25 = .ok (.iconst 0, 1) := by decide +kernel
theorem d_It_init_26 : decode b_It_init 26 = .ok (.putfield 22, 3) := by decide +kernel
theorem d_It_init_29 : decode b_It_init 29 = .ok (.return_, 1) := by decide +kernel
theorem d_Te_init_0 : decode b_Te_init 0 = .ok (.aload_n 0, 1) := by decide +kernel
theorem d_Te_init_1 : decode b_Te_init 1 = .ok (.invokespecial 3, 3) := by decide +kernel
theorem d_Te_init_4 : decode b_Te_init 4 = .ok (.aload_n 0, 1) := by decide +kernel
theorem d_Te_init_5 : decode b_Te_init 5 = .ok (.new 9, 3) := by decide +kernel
theorem d_Te_init_8 : decode b_Te_init 8 = .ok (.dup, 1) := by decide +kernel
theorem d_Te_init_9 : decode b_Te_init 9 = .ok (.invokespecial 11, 3) := by decide +kernel
theorem d_Te_init_12 : decode b_Te_init 12 = .ok (.putfield 12, 3) := by decide +kernel
theorem d_Te_init_15 : decode b_Te_init 15 = .ok (.aload_n 0, 1) := by decide +kernel
theorem d_Te_init_16 : decode b_Te_init 16 = .ok (.bipush 100, 2) := by decide +kernel
theorem d_Te_init_18 : decode b_Te_init 18 = .ok (.newarray .int, 2) := by decide +kernel
theorem d_Te_init_20 : decode b_Te_init 20 = .ok (.putfield 18, 3) := by decide +kernel
theorem d_Te_init_23 : decode b_Te_init 23 = .ok (.aload_n 0, 1) := by decide +kernel
theorem d_Te_init_24 : decode b_Te_init 24 = .ok (.bipush 100, 2) := by decide +kernel
theorem d_Te_init_26 : decode b_Te_init 26 = .ok (.newarray .int, 2) := by decide +kernel
theorem d_Te_init_28 : decode b_Te_init 28 = .ok (.putfield 22, 3) := by decide +kernel
theorem d_Te_init_31 : decode b_Te_init 31 = .ok (.aload_n 0, 1) := by decide +kernel
theorem d_Te_init_32 : decode b_Te_init 32 = .ok (.bipush 100, 2) := by decide +kernel
theorem d_Te_init_34 : decode b_Te_init 34 = .ok (.newarray .int, 2) := by decide +kernel
theorem d_Te_init_36 : decode b_Te_init 36 = .ok (.putfield 25, 3) := by decide +kernel
theorem d_Te_init_39 : decode b_Te_init 39 = .ok (.aload_n 0, 1) := by decide +kernel
theorem d_Te_init_40 : decode b_Te_init 40 = .ok (.iconst 0, 1) := by decide +kernel
theorem d_Te_init_41 : decode b_Te_init 41 = .ok (.putfield 28, 3) := by decide +kernel
theorem d_Te_init_44 : decode b_Te_init 44 = .ok (.return_, 1) := by decide +kernel
theorem d_Sh_init_0 : decode b_Sh_init 0 = .ok (.aload_n 0, 1) := by decide +kernel
theorem d_Sh_init_1 : decode b_Sh_init 1 = .ok (.invokespecial 3, 3) := by decide +kernel
theorem d_Sh_init_4 : decode b_Sh_init 4 = .ok (.aload_n 0, 1) := by decide +kernel
theorem d_Sh_init_5 : decode b_Sh_init 5 = .ok (.bipush 25, 2) := by decide +kernel
theorem d_Sh_init_7 : decode b_Sh_init 7 = .ok (.anewarray 9, 3) := by decide +kernel
theorem d_Sh_init_10 : decode b_Sh_init 10 = .ok (.putfield 11, 3) := by decide +kernel
theorem d_Sh_init_13 : decode b_Sh_init 13 = .ok (.aload_n 0, 1) := by decide +kernel
theorem d_Sh_init_14 : decode b_Sh_init 14 = .ok (.iconst 0, 1) := by decide +kernel
theorem d_Sh_init_15 : decode b_Sh_init 15 = .ok (.putfield 17, 3) := by decide +kernel
theorem d_Sh_init_18 : decode b_Sh_init 18 = .ok (.aload_n 0, 1) := by decide +kernel
theorem d_Sh_init_19 : decode b_Sh_init 19 = .ok (.iconst 0, 1) := by decide +kernel
theorem d_Sh_init_20 : decode b_Sh_init 20 = .ok (.putfield 21, 3) := by decide +kernel
theorem d_Sh_init_23 : decode b_Sh_init 23 = .ok (.return_, 1) := by decide +kernel
theorem d_VS_init_0 : decode b_VS_init 0 = .ok (.aload_n 0, 1) := by decide +kernel
theorem d_VS_init_1 : decode b_VS_init 1 = .ok (.invokespecial 3, 3) := by decide +kernel
theorem d_VS_init_4 : decode b_VS_init 4 = .ok (.aload_n 0, 1) := by decide +kernel
theorem d_VS_init_5 : decode b_VS_init 5 = .ok (.new 9, 3) := by decide +kernel
theorem d_VS_init_8 : decode b_VS_init 8 = .ok (.dup, 1) := by decide +kernel
theorem d_VS_init_9 : decode b_VS_init 9 = .ok (.invokespecial 11, 3) := by decide +kernel
theorem d_VS_init_12 : decode b_VS_init 12 = .ok (.putfield 12, 3) := by decide +kernel
theorem d_VS_init_15 : decode b_VS_init 15 = .ok (.aload_n 0, 1) := by decide +kernel
theorem d_VS_init_16 : decode b_VS_init 16 = .ok (.new 16, 3) := by decide +kernel
theorem d_VS_init_19 : decode b_VS_init 19 = .ok (.dup, 1) := by decide +kernel
theorem d_VS_init_20 : decode b_VS_init 20 = .ok (.invokespecial 18, 3) := by decide +kernel
theorem d_VS_init_23 : decode b_VS_init 23 = .ok (.putfield 19, 3) := by decide +kernel
theorem d_VS_init_26 : decode b_VS_init 26 = .ok (.aload_n 0, 1) := by decide +kernel
theorem d_VS_init_27 : decode b_VS_init 27 = .ok (.new 23, 3) := by decide +kernel
theorem d_VS_init_30 : decode b_VS_init 30 = .ok (.dup, 1) := by decide +kernel
theorem d_VS_init_31 : decode b_VS_init 31 = .ok (.invokespecial 25, 3) := by decide +kernel
theorem d_VS_init_34 : decode b_VS_init 34 = .ok (.putfield 26, 3) := by decide +kernel
theorem d_VS_init_37 : decode b_VS_init 37 = .ok (.aload_n 0, 1) := by decide +kernel
theorem d_VS_init_38 : decode b_VS_init 38 = .ok (.new 23, 3) := by decide +kernel
theorem d_VS_init_41 : decode b_VS_init 41 = .ok (.dup, 1) := by decide +kernel
theorem d_VS_init_42 : decode b_VS_init 42 = .ok (.invokespecial 25, 3) := by decide +kernel
theorem d_VS_init_45 : decode b_VS_init 45 = .ok (.putfield 30, 3) := by decide +kernel
theorem d_VS_init_48 : decode b_VS_init 48 = .ok (.aload_n 0, 1) := by decide +kernel
theorem d_VS_init_49 : decode b_VS_init 49 = .ok (.iconst (-1), 1) := by decide +kernel
theorem d_VS_init_50 : decode b_VS_init 50 = .ok (.putfield 33, 3) := by decide +kernel
theorem d_VS_init_53 : decode b_VS_init 53 = .ok (.aload_n 0, 1) := by decide +kernel
theorem d_VS_init_54 : decode b_VS_init 54 = .ok (.iconst 0, 1) := by decide +kernel
theorem d_VS_init_55 : decode b_VS_init 55 = .ok (.putfield 37, 3) := by decide +kernel
theorem d_VS_init_58 : decode b_VS_init 58 = .ok (.aload_n 0, 1) := by decide +kernel
theorem d_VS_init_59 : decode b_VS_init 59 = .ok (.new 9, 3) := by decide +kernel
theorem d_VS_init_62 : decode b_VS_init 62 = .ok (.dup, 1) := by decide +kernel
theorem d_VS_init_63 : decode b_VS_init 63 = .ok (.invokespecial 11, 3) := by decide +kernel
theorem d_VS_init_66 : decode b_VS_init 66 = .ok (.putfield 40, 3) := by decide +kernel
theorem d_VS_init_69 : decode b_VS_init 69 = .ok (.aload_n 0, 1) := by decide +kernel
theorem d_VS_init_70 : decode b_VS_init 70 = .ok (.new 9, 3) := by decide +kernel
theorem d_VS_init_73 : decode b_VS_init 73 = .ok (.dup, 1) := by decide +kernel
theorem d_VS_init_74 : decode b_VS_init 74 = .ok (.invokespecial 11, 3) := by decide +kernel
theorem d_VS_init_77 : decode b_VS_init 77 = .ok (.putfield 43, 3) := by decide +kernel
theorem d_VS_init_80 : decode b_VS_init 80 = .ok (.aload_n 0, 1) := by decide +kernel
theorem d_VS_init_81 : decode b_VS_init 81 = .ok (.new 46, 3) := by decide +kernel
theorem d_VS_init_84 : decode b_VS_init 84 = .ok (.dup, 1) := by decide +kernel
theorem d_VS_init_85 : decode b_VS_init 85 = .ok (.invokespecial 48, 3) := by decide +kernel
theorem d_VS_init_88 : decode b_VS_init 88 = .ok (.putfield 49, 3) := by decide +kernel
theorem d_VS_init_91 : decode b_VS_init 91 = .ok (.aload_n 0, 1) := by decide +kernel
theorem d_VS_init_92 : decode b_VS_init 92 = .ok (.new 46, 3) := by decide +kernel
theorem d_VS_init_95 : decode b_VS_init 95 = .ok (.dup, 1) := by decide +kernel
theorem d_VS_init_96 : decode b_VS_init 96 = .ok (.invokespecial 48, 3) := by decide +kernel
theorem d_VS_init_99 : decode b_VS_init 99 = .ok (.putfield 53, 3) := by decide +kernel
theorem d_VS_init_102 : decode b_VS_init 102 = .ok (.aload_n 0, 1) := by decide +kernel
theorem d_VS_init_103 : decode b_VS_init 103 = .ok (.new 46, 3) := by decide +kernel
theorem d_VS_init_106 : decode b_VS_init 106 = .ok (.dup, 1) := by decide +kernel
theorem d_VS_init_107 : decode b_VS_init 107 = .ok (.invokespecial 48, 3) := by decide +kernel
theorem d_VS_init_110 : decode b_VS_init 110 = .ok (.putfield 56, 3) := by decide +kernel
theorem d_VS_init_113 : decode b_VS_init 113 = .ok (.return_, 1) := by decide +kernel
set_option maxRecDepth 20000 in
theorem w_63 : Cond.methodLink "VaryStore$Row" 3 objectInit ∈ TB := tb_in 63 (by decide +kernel) (by decide +kernel)
set_option maxRecDepth 20000 in
theorem w_56 : Cond.instanceMethod objectInit ∈ TB := tb_in 56 (by decide +kernel) (by decide +kernel)
set_option maxRecDepth 20000 in
theorem w_57 : Cond.code objectInit ⟨#[0xb1]⟩ 1 none ∈ TB := tb_in 57 (by decide +kernel) (by decide +kernel)
set_option maxRecDepth 20000 in
theorem w_74 : Cond.arrayClass .char ∈ TB := tb_in 74 (by decide +kernel) (by decide +kernel)
set_option maxRecDepth 20000 in
theorem w_64 : Cond.fieldLink "VaryStore$Row" 9 "VaryStore$Row" "letters" "[C"  ∈ TB := tb_in 64 (by decide +kernel) (by decide +kernel)
set_option maxRecDepth 20000 in
theorem w_65 : Cond.fieldLink "VaryStore$Row" 15 "VaryStore$Row" "length" "I"  ∈ TB := tb_in 65 (by decide +kernel) (by decide +kernel)
set_option maxRecDepth 20000 in
theorem w_124 : Cond.methodLink "VaryStore$Items" 3 objectInit ∈ TB := tb_in 124 (by decide +kernel) (by decide +kernel)
set_option maxRecDepth 20000 in
theorem w_59 : Cond.instantiable "VaryStore$Row" 2 ∈ TB := tb_in 59 (by decide +kernel) (by decide +kernel)
set_option maxRecDepth 20000 in
theorem w_125 : Cond.classLink "VaryStore$Items" 9 "VaryStore$Row" ∈ TB := tb_in 125 (by decide +kernel) (by decide +kernel)
set_option maxRecDepth 20000 in
theorem w_31 : Cond.initialized "VaryStore$Row" ∈ TB := tb_in 31 (by decide +kernel) (by decide +kernel)
set_option maxRecDepth 20000 in
theorem w_62 : Cond.code ⟨"VaryStore$Row", "<init>", "()V"⟩ prog_3_method_1_code 1 none ∈ TB := tb_in 62 (by decide +kernel) (by decide +kernel)
set_option maxRecDepth 20000 in
theorem w_126 : Cond.methodLinkNest "VaryStore$Items" 11 ⟨"VaryStore$Row", "<init>", "()V"⟩ "VaryStore" ∈ NB := nb_in 126 (by decide +kernel) (by decide +kernel)
set_option maxRecDepth 20000 in
theorem w_61 : Cond.instanceMethod ⟨"VaryStore$Row", "<init>", "()V"⟩ ∈ TB := tb_in 61 (by decide +kernel) (by decide +kernel)
set_option maxRecDepth 20000 in
theorem w_127 : Cond.fieldLink "VaryStore$Items" 12 "VaryStore$Items" "row" "LVaryStore$Row;"  ∈ TB := tb_in 127 (by decide +kernel) (by decide +kernel)
set_option maxRecDepth 20000 in
theorem w_118 : Cond.arrayClass .int ∈ TB := tb_in 118 (by decide +kernel) (by decide +kernel)
set_option maxRecDepth 20000 in
theorem w_128 : Cond.fieldLink "VaryStore$Items" 18 "VaryStore$Items" "ends" "[I"  ∈ TB := tb_in 128 (by decide +kernel) (by decide +kernel)
set_option maxRecDepth 20000 in
theorem w_129 : Cond.fieldLink "VaryStore$Items" 22 "VaryStore$Items" "count" "I"  ∈ TB := tb_in 129 (by decide +kernel) (by decide +kernel)
set_option maxRecDepth 20000 in
theorem w_99 : Cond.methodLink "VaryStore$Text" 3 objectInit ∈ TB := tb_in 99 (by decide +kernel) (by decide +kernel)
set_option maxRecDepth 20000 in
theorem w_100 : Cond.classLink "VaryStore$Text" 9 "VaryStore$Row" ∈ TB := tb_in 100 (by decide +kernel) (by decide +kernel)
set_option maxRecDepth 20000 in
theorem w_101 : Cond.methodLinkNest "VaryStore$Text" 11 ⟨"VaryStore$Row", "<init>", "()V"⟩ "VaryStore" ∈ NB := nb_in 101 (by decide +kernel) (by decide +kernel)
set_option maxRecDepth 20000 in
theorem w_102 : Cond.fieldLink "VaryStore$Text" 12 "VaryStore$Text" "row" "LVaryStore$Row;"  ∈ TB := tb_in 102 (by decide +kernel) (by decide +kernel)
set_option maxRecDepth 20000 in
theorem w_103 : Cond.fieldLink "VaryStore$Text" 18 "VaryStore$Text" "starts" "[I"  ∈ TB := tb_in 103 (by decide +kernel) (by decide +kernel)
set_option maxRecDepth 20000 in
theorem w_104 : Cond.fieldLink "VaryStore$Text" 22 "VaryStore$Text" "colons" "[I"  ∈ TB := tb_in 104 (by decide +kernel) (by decide +kernel)
set_option maxRecDepth 20000 in
theorem w_105 : Cond.fieldLink "VaryStore$Text" 25 "VaryStore$Text" "ends" "[I"  ∈ TB := tb_in 105 (by decide +kernel) (by decide +kernel)
set_option maxRecDepth 20000 in
theorem w_106 : Cond.fieldLink "VaryStore$Text" 28 "VaryStore$Text" "lines" "I"  ∈ TB := tb_in 106 (by decide +kernel) (by decide +kernel)
set_option maxRecDepth 20000 in
theorem w_80 : Cond.methodLink "VaryStore$Shelf" 3 objectInit ∈ TB := tb_in 80 (by decide +kernel) (by decide +kernel)
set_option maxRecDepth 20000 in
theorem w_82 : Cond.arrayOver (.object "VaryStore$Thing") ∈ NB := nb_in 82 (by decide +kernel) (by decide +kernel)
set_option maxRecDepth 20000 in
theorem w_81 : Cond.classLink "VaryStore$Shelf" 9 "VaryStore$Thing" ∈ TB := tb_in 81 (by decide +kernel) (by decide +kernel)
set_option maxRecDepth 20000 in
theorem w_83 : Cond.fieldLink "VaryStore$Shelf" 11 "VaryStore$Shelf" "all" "[LVaryStore$Thing;"  ∈ TB := tb_in 83 (by decide +kernel) (by decide +kernel)
set_option maxRecDepth 20000 in
theorem w_84 : Cond.fieldLink "VaryStore$Shelf" 17 "VaryStore$Shelf" "count" "I"  ∈ TB := tb_in 84 (by decide +kernel) (by decide +kernel)
set_option maxRecDepth 20000 in
theorem w_86 : Cond.fieldLink "VaryStore$Shelf" 21 "VaryStore$Shelf" "uses" "I"  ∈ TB := tb_in 86 (by decide +kernel) (by decide +kernel)
set_option maxRecDepth 20000 in
theorem w_55 : Cond.methodLink "VaryStore" 3 objectInit ∈ TB := tb_in 55 (by decide +kernel) (by decide +kernel)
set_option maxRecDepth 20000 in
theorem w_58 : Cond.classLink "VaryStore" 9 "VaryStore$Row" ∈ TB := tb_in 58 (by decide +kernel) (by decide +kernel)
set_option maxRecDepth 20000 in
theorem w_60 : Cond.methodLinkNest "VaryStore" 11 ⟨"VaryStore$Row", "<init>", "()V"⟩ "VaryStore" ∈ NB := nb_in 60 (by decide +kernel) (by decide +kernel)
set_option maxRecDepth 20000 in
theorem w_138 : Cond.fieldLink "VaryStore" 12 "VaryStore" "tape" "LVaryStore$Row;"  ∈ TB := tb_in 138 (by decide +kernel) (by decide +kernel)
set_option maxRecDepth 20000 in
theorem w_76 : Cond.instantiable "VaryStore$Shelf" 3 ∈ TB := tb_in 76 (by decide +kernel) (by decide +kernel)
set_option maxRecDepth 20000 in
theorem w_75 : Cond.classLink "VaryStore" 16 "VaryStore$Shelf" ∈ TB := tb_in 75 (by decide +kernel) (by decide +kernel)
set_option maxRecDepth 20000 in
theorem w_32 : Cond.initialized "VaryStore$Shelf" ∈ TB := tb_in 32 (by decide +kernel) (by decide +kernel)
set_option maxRecDepth 20000 in
theorem w_79 : Cond.code ⟨"VaryStore$Shelf", "<init>", "()V"⟩ prog_4_method_1_code 1 none ∈ TB := tb_in 79 (by decide +kernel) (by decide +kernel)
set_option maxRecDepth 20000 in
theorem w_77 : Cond.methodLinkNest "VaryStore" 18 ⟨"VaryStore$Shelf", "<init>", "()V"⟩ "VaryStore" ∈ NB := nb_in 77 (by decide +kernel) (by decide +kernel)
set_option maxRecDepth 20000 in
theorem w_78 : Cond.instanceMethod ⟨"VaryStore$Shelf", "<init>", "()V"⟩ ∈ TB := tb_in 78 (by decide +kernel) (by decide +kernel)
set_option maxRecDepth 20000 in
theorem w_139 : Cond.fieldLink "VaryStore" 19 "VaryStore" "shelf" "LVaryStore$Shelf;"  ∈ TB := tb_in 139 (by decide +kernel) (by decide +kernel)
set_option maxRecDepth 20000 in
theorem w_95 : Cond.instantiable "VaryStore$Text" 5 ∈ TB := tb_in 95 (by decide +kernel) (by decide +kernel)
set_option maxRecDepth 20000 in
theorem w_94 : Cond.classLink "VaryStore" 23 "VaryStore$Text" ∈ TB := tb_in 94 (by decide +kernel) (by decide +kernel)
set_option maxRecDepth 20000 in
theorem w_33 : Cond.initialized "VaryStore$Text" ∈ TB := tb_in 33 (by decide +kernel) (by decide +kernel)
set_option maxRecDepth 20000 in
theorem w_98 : Cond.code ⟨"VaryStore$Text", "<init>", "()V"⟩ prog_5_method_1_code 1 none ∈ TB := tb_in 98 (by decide +kernel) (by decide +kernel)
set_option maxRecDepth 20000 in
theorem w_96 : Cond.methodLinkNest "VaryStore" 25 ⟨"VaryStore$Text", "<init>", "()V"⟩ "VaryStore" ∈ NB := nb_in 96 (by decide +kernel) (by decide +kernel)
set_option maxRecDepth 20000 in
theorem w_97 : Cond.instanceMethod ⟨"VaryStore$Text", "<init>", "()V"⟩ ∈ TB := tb_in 97 (by decide +kernel) (by decide +kernel)
set_option maxRecDepth 20000 in
theorem w_140 : Cond.fieldLink "VaryStore" 26 "VaryStore" "request" "LVaryStore$Text;"  ∈ TB := tb_in 140 (by decide +kernel) (by decide +kernel)
set_option maxRecDepth 20000 in
theorem w_141 : Cond.fieldLink "VaryStore" 30 "VaryStore" "draft" "LVaryStore$Text;"  ∈ TB := tb_in 141 (by decide +kernel) (by decide +kernel)
set_option maxRecDepth 20000 in
theorem w_142 : Cond.fieldLink "VaryStore" 33 "VaryStore" "faultPlace" "I"  ∈ TB := tb_in 142 (by decide +kernel) (by decide +kernel)
set_option maxRecDepth 20000 in
theorem w_143 : Cond.fieldLink "VaryStore" 37 "VaryStore" "time" "I"  ∈ TB := tb_in 143 (by decide +kernel) (by decide +kernel)
set_option maxRecDepth 20000 in
theorem w_144 : Cond.fieldLink "VaryStore" 40 "VaryStore" "name" "LVaryStore$Row;"  ∈ TB := tb_in 144 (by decide +kernel) (by decide +kernel)
set_option maxRecDepth 20000 in
theorem w_145 : Cond.fieldLink "VaryStore" 43 "VaryStore" "value" "LVaryStore$Row;"  ∈ TB := tb_in 145 (by decide +kernel) (by decide +kernel)
set_option maxRecDepth 20000 in
theorem w_120 : Cond.instantiable "VaryStore$Items" 3 ∈ TB := tb_in 120 (by decide +kernel) (by decide +kernel)
set_option maxRecDepth 20000 in
theorem w_119 : Cond.classLink "VaryStore" 46 "VaryStore$Items" ∈ TB := tb_in 119 (by decide +kernel) (by decide +kernel)
set_option maxRecDepth 20000 in
theorem w_34 : Cond.initialized "VaryStore$Items" ∈ TB := tb_in 34 (by decide +kernel) (by decide +kernel)
set_option maxRecDepth 20000 in
theorem w_123 : Cond.code ⟨"VaryStore$Items", "<init>", "()V"⟩ prog_2_method_1_code 1 none ∈ TB := tb_in 123 (by decide +kernel) (by decide +kernel)
set_option maxRecDepth 20000 in
theorem w_121 : Cond.methodLinkNest "VaryStore" 48 ⟨"VaryStore$Items", "<init>", "()V"⟩ "VaryStore" ∈ NB := nb_in 121 (by decide +kernel) (by decide +kernel)
set_option maxRecDepth 20000 in
theorem w_122 : Cond.instanceMethod ⟨"VaryStore$Items", "<init>", "()V"⟩ ∈ TB := tb_in 122 (by decide +kernel) (by decide +kernel)
set_option maxRecDepth 20000 in
theorem w_146 : Cond.fieldLink "VaryStore" 49 "VaryStore" "words" "LVaryStore$Items;"  ∈ TB := tb_in 146 (by decide +kernel) (by decide +kernel)
set_option maxRecDepth 20000 in
theorem w_147 : Cond.fieldLink "VaryStore" 53 "VaryStore" "left" "LVaryStore$Items;"  ∈ TB := tb_in 147 (by decide +kernel) (by decide +kernel)
set_option maxRecDepth 20000 in
theorem w_148 : Cond.fieldLink "VaryStore" 56 "VaryStore" "right" "LVaryStore$Items;"  ∈ TB := tb_in 148 (by decide +kernel) (by decide +kernel)
set_option maxRecDepth 100000 in
theorem uw_Ro : ∀ w ∈ u_ws R_Ro F_Ro 2, w ∈ TB := by decide +kernel
set_option maxRecDepth 100000 in
theorem fa_Ro_9 : FA "VaryStore$Row" 9 2 0 R_Ro F_Ro 2 t_Ro := ⟨rfl, uw_Ro, by decide, to_Ro, n_Ro, Or.inl w_64⟩
set_option maxRecDepth 100000 in
theorem fa_Ro_15 : FA "VaryStore$Row" 15 2 1 R_Ro F_Ro 2 t_Ro := ⟨rfl, uw_Ro, by decide, to_Ro, n_Ro, Or.inl w_65⟩
set_option maxRecDepth 100000 in
theorem uw_It : ∀ w ∈ u_ws R_It F_It 3, w ∈ TB := by decide +kernel
set_option maxRecDepth 100000 in
theorem fa_It_12 : FA "VaryStore$Items" 12 1 0 R_It F_It 3 t_It := ⟨rfl, uw_It, by decide, to_It, n_It, Or.inl w_127⟩
set_option maxRecDepth 100000 in
theorem fa_It_18 : FA "VaryStore$Items" 18 1 1 R_It F_It 3 t_It := ⟨rfl, uw_It, by decide, to_It, n_It, Or.inl w_128⟩
set_option maxRecDepth 100000 in
theorem fa_It_22 : FA "VaryStore$Items" 22 1 2 R_It F_It 3 t_It := ⟨rfl, uw_It, by decide, to_It, n_It, Or.inl w_129⟩
set_option maxRecDepth 100000 in
theorem uw_Te : ∀ w ∈ u_ws R_Te F_Te 5, w ∈ TB := by decide +kernel
set_option maxRecDepth 100000 in
theorem fa_Te_12 : FA "VaryStore$Text" 12 4 0 R_Te F_Te 5 t_Te := ⟨rfl, uw_Te, by decide, to_Te, n_Te, Or.inl w_102⟩
set_option maxRecDepth 100000 in
theorem fa_Te_18 : FA "VaryStore$Text" 18 4 1 R_Te F_Te 5 t_Te := ⟨rfl, uw_Te, by decide, to_Te, n_Te, Or.inl w_103⟩
set_option maxRecDepth 100000 in
theorem fa_Te_22 : FA "VaryStore$Text" 22 4 2 R_Te F_Te 5 t_Te := ⟨rfl, uw_Te, by decide, to_Te, n_Te, Or.inl w_104⟩
set_option maxRecDepth 100000 in
theorem fa_Te_25 : FA "VaryStore$Text" 25 4 3 R_Te F_Te 5 t_Te := ⟨rfl, uw_Te, by decide, to_Te, n_Te, Or.inl w_105⟩
set_option maxRecDepth 100000 in
theorem fa_Te_28 : FA "VaryStore$Text" 28 4 4 R_Te F_Te 5 t_Te := ⟨rfl, uw_Te, by decide, to_Te, n_Te, Or.inl w_106⟩
set_option maxRecDepth 100000 in
theorem uw_Sh : ∀ w ∈ u_ws R_Sh F_Sh 3, w ∈ TB := by decide +kernel
set_option maxRecDepth 100000 in
theorem fa_Sh_11 : FA "VaryStore$Shelf" 11 3 0 R_Sh F_Sh 3 t_Sh := ⟨rfl, uw_Sh, by decide, to_Sh, n_Sh, Or.inl w_83⟩
set_option maxRecDepth 100000 in
theorem fa_Sh_17 : FA "VaryStore$Shelf" 17 3 1 R_Sh F_Sh 3 t_Sh := ⟨rfl, uw_Sh, by decide, to_Sh, n_Sh, Or.inl w_84⟩
set_option maxRecDepth 100000 in
theorem fa_Sh_21 : FA "VaryStore$Shelf" 21 3 2 R_Sh F_Sh 3 t_Sh := ⟨rfl, uw_Sh, by decide, to_Sh, n_Sh, Or.inl w_86⟩
set_option maxRecDepth 100000 in
theorem uw_VS : ∀ w ∈ u_ws R_VS F_VS 11, w ∈ TB := by decide +kernel
set_option maxRecDepth 100000 in
theorem fa_VS_12 : FA "VaryStore" 12 0 0 R_VS F_VS 11 t_VS := ⟨rfl, uw_VS, by decide, to_VS, n_VS, Or.inl w_138⟩
set_option maxRecDepth 100000 in
theorem fa_VS_19 : FA "VaryStore" 19 0 1 R_VS F_VS 11 t_VS := ⟨rfl, uw_VS, by decide, to_VS, n_VS, Or.inl w_139⟩
set_option maxRecDepth 100000 in
theorem fa_VS_26 : FA "VaryStore" 26 0 2 R_VS F_VS 11 t_VS := ⟨rfl, uw_VS, by decide, to_VS, n_VS, Or.inl w_140⟩
set_option maxRecDepth 100000 in
theorem fa_VS_30 : FA "VaryStore" 30 0 3 R_VS F_VS 11 t_VS := ⟨rfl, uw_VS, by decide, to_VS, n_VS, Or.inl w_141⟩
set_option maxRecDepth 100000 in
theorem fa_VS_33 : FA "VaryStore" 33 0 4 R_VS F_VS 11 t_VS := ⟨rfl, uw_VS, by decide, to_VS, n_VS, Or.inl w_142⟩
set_option maxRecDepth 100000 in
theorem fa_VS_37 : FA "VaryStore" 37 0 5 R_VS F_VS 11 t_VS := ⟨rfl, uw_VS, by decide, to_VS, n_VS, Or.inl w_143⟩
set_option maxRecDepth 100000 in
theorem fa_VS_40 : FA "VaryStore" 40 0 6 R_VS F_VS 11 t_VS := ⟨rfl, uw_VS, by decide, to_VS, n_VS, Or.inl w_144⟩
set_option maxRecDepth 100000 in
theorem fa_VS_43 : FA "VaryStore" 43 0 7 R_VS F_VS 11 t_VS := ⟨rfl, uw_VS, by decide, to_VS, n_VS, Or.inl w_145⟩
set_option maxRecDepth 100000 in
theorem fa_VS_49 : FA "VaryStore" 49 0 8 R_VS F_VS 11 t_VS := ⟨rfl, uw_VS, by decide, to_VS, n_VS, Or.inl w_146⟩
set_option maxRecDepth 100000 in
theorem fa_VS_53 : FA "VaryStore" 53 0 9 R_VS F_VS 11 t_VS := ⟨rfl, uw_VS, by decide, to_VS, n_VS, Or.inl w_147⟩
set_option maxRecDepth 100000 in
theorem fa_VS_56 : FA "VaryStore" 56 0 10 R_VS F_VS 11 t_VS := ⟨rfl, uw_VS, by decide, to_VS, n_VS, Or.inl w_148⟩
