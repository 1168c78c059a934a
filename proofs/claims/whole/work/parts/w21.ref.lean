theorem d_MT_init_0 : decode b_MT_init 0 = .ok (.aload_n 0, 1) := by decide +kernel
theorem d_MT_init_1 : decode b_MT_init 1 = .ok (.invokespecial 1, 3) := by decide +kernel
theorem d_MT_init_4 : decode b_MT_init 4 = .ok (.aload_n 0, 1) := by decide +kernel
theorem d_MT_init_5 : decode b_MT_init 5 = .ok (.bipush 100, 2) := by decide +kernel
theorem d_MT_init_7 : decode b_MT_init 7 = .ok (.newarray .int, 2) := by decide +kernel
theorem d_MT_init_9 : decode b_MT_init 9 = .ok (.putfield 7, 3) := by decide +kernel
theorem d_MT_init_12 : decode b_MT_init 12 = .ok (.aload_n 0, 1) := by decide +kernel
theorem d_MT_init_13 : decode b_MT_init 13 = .ok (.bipush 100, 2) := by decide +kernel
theorem d_MT_init_15 : decode b_MT_init 15 = .ok (.newarray .int, 2) := by decide +kernel
theorem d_MT_init_17 : decode b_MT_init 17 = .ok (.putfield 13, 3) := by decide +kernel
theorem d_MT_init_20 : decode b_MT_init 20 = .ok (.aload_n 0, 1) := by decide +kernel
theorem d_MT_init_21 : decode b_MT_init 21 = .ok (.bipush 100, 2) := by decide +kernel
theorem d_MT_init_23 : decode b_MT_init 23 = .ok (.newarray .int, 2) := by decide +kernel
theorem d_MT_init_25 : decode b_MT_init 25 = .ok (.putfield 16, 3) := by decide +kernel
theorem d_MT_init_28 : decode b_MT_init 28 = .ok (.aload_n 0, 1) := by decide +kernel
theorem d_MT_init_29 : decode b_MT_init 29 = .ok (.iload_n 1, 1) := by decide +kernel
theorem d_MT_init_30 : decode b_MT_init 30 = .ok (.newarray .int, 2) := by decide +kernel
theorem d_MT_init_32 : decode b_MT_init 32 = .ok (.putfield 19, 3) := by decide +kernel
theorem d_MT_init_35 : decode b_MT_init 35 = .ok (.return_, 1) := by decide +kernel
theorem d_Mg_init_0 : decode b_Mg_init 0 = .ok (.aload_n 0, 1) := by decide +kernel
theorem d_Mg_init_1 : decode b_Mg_init 1 = .ok (.invokespecial 3, 3) := by decide +kernel
theorem d_Mg_init_4 : decode b_Mg_init 4 = .ok (.aload_n 0, 1) := by decide +kernel
theorem d_Mg_init_5 : decode b_Mg_init 5 = .ok (.bipush (-2), 2) := by decide +kernel
theorem d_Mg_init_7 : decode b_Mg_init 7 = .ok (.putfield 9, 3) := by decide +kernel
theorem d_Mg_init_10 : decode b_Mg_init 10 = .ok (.aload_n 0, 1) := by decide +kernel
theorem d_Mg_init_11 : decode b_Mg_init 11 = .ok (.bipush (-2), 2) := by decide +kernel
theorem d_Mg_init_13 : decode b_Mg_init 13 = .ok (.putfield 15, 3) := by decide +kernel
theorem d_Mg_init_16 : decode b_Mg_init 16 = .ok (.return_, 1) := by decide +kernel
theorem d_Mo_init_0 : decode b_Mo_init 0 = .ok (.aload_n 0, 1) := by decide +kernel
theorem d_Mo_init_1 : decode b_Mo_init 1 = .ok (.invokespecial 1, 3) := by decide +kernel
theorem d_Mo_init_4 : decode b_Mo_init 4 = .ok (.aload_n 0, 1) := by decide +kernel
theorem d_Mo_init_5 : decode b_Mo_init 5 = .ok (.sipush 300, 3) := by decide +kernel
theorem d_Mo_init_8 : decode b_Mo_init 8 = .ok (.newarray .int, 2) := by decide +kernel
theorem d_Mo_init_10 : decode b_Mo_init 10 = .ok (.putfield 7, 3) := by decide +kernel
theorem d_Mo_init_13 : decode b_Mo_init 13 = .ok (.aload_n 0, 1) := by decide +kernel
theorem d_Mo_init_14 : decode b_Mo_init 14 = .ok (.iconst (-1), 1) := by decide +kernel
theorem d_Mo_init_15 : decode b_Mo_init 15 = .ok (.putfield 13, 3) := by decide +kernel
theorem d_Mo_init_18 : decode b_Mo_init 18 = .ok (.aload_n 0, 1) := by decide +kernel
theorem d_Mo_init_19 : decode b_Mo_init 19 = .ok (.new 17, 3) := by decide +kernel
theorem d_Mo_init_22 : decode b_Mo_init 22 = .ok (.dup, 1) := by decide +kernel
theorem d_Mo_init_23 : decode b_Mo_init 23 = .ok (.iconst 0, 1) := by decide +kernel
theorem d_Mo_init_24 : decode b_Mo_init 24 = .ok (.invokespecial 19, 3) := by decide +kernel
theorem d_Mo_init_27 : decode b_Mo_init 27 = .ok (.putfield 22, 3) := by decide +kernel
theorem d_Mo_init_30 : decode b_Mo_init 30 = .ok (.aload_n 0, 1) := by decide +kernel
theorem d_Mo_init_31 : decode b_Mo_init 31 = .ok (.bipush 25, 2) := by decide +kernel
theorem d_Mo_init_33 : decode b_Mo_init 33 = .ok (.anewarray 26, 3) := by decide +kernel
theorem d_Mo_init_36 : decode b_Mo_init 36 = .ok (.putfield 28, 3) := by decide +kernel
theorem d_Mo_init_39 : decode b_Mo_init 39 = .ok (.return_, 1) := by decide +kernel
theorem d_Mo_thrown_0 : decode b_Mo_thrown 0 = .ok (.aload_n 0, 1) := by decide +kernel
theorem d_Mo_thrown_1 : decode b_Mo_thrown 1 = .ok (.getfield 32, 3) := by decide +kernel
theorem d_Mo_thrown_4 : decode b_Mo_thrown 4 = .ok (.ireturn, 1) := by decide +kernel
theorem d_Mo_fault_0 : decode b_Mo_fault 0 = .ok (.aload_n 0, 1) := by decide +kernel
theorem d_Mo_fault_1 : decode b_Mo_fault 1 = .ok (.iconst 0, 1) := by decide +kernel
theorem d_Mo_fault_2 : decode b_Mo_fault 2 = .ok (.putfield 32, 3) := by decide +kernel
theorem d_Mo_fault_5 : decode b_Mo_fault 5 = .ok (.aload_n 0, 1) := by decide +kernel
theorem d_Mo_fault_6 : decode b_Mo_fault 6 = .ok (.getfield 13, 3) := by decide +kernel
theorem d_Mo_fault_9 : decode b_Mo_fault 9 = .ok (.ireturn, 1) := by decide +kernel
theorem d_Mo_things_0 : decode b_Mo_things 0 = .ok (.aload_n 0, 1) := by decide +kernel
theorem d_Mo_things_1 : decode b_Mo_things 1 = .ok (.iconst 0, 1) := by decide +kernel
theorem d_Mo_things_2 : decode b_Mo_things 2 = .ok (.putfield 32, 3) := by decide +kernel
theorem d_Mo_things_5 : decode b_Mo_things 5 = .ok (.aload_n 0, 1) := by decide +kernel
theorem d_Mo_things_6 : decode b_Mo_things 6 = .ok (.getfield 181, 3) := by decide +kernel
theorem d_Mo_things_9 : decode b_Mo_things 9 = .ok (.ireturn, 1) := by decide +kernel
theorem d_Mo_purge_0 : decode b_Mo_purge 0 = .ok (.aload_n 0, 1) := by decide +kernel
theorem d_Mo_purge_1 : decode b_Mo_purge 1 = .ok (.iconst 0, 1) := by decide +kernel
theorem d_Mo_purge_2 : decode b_Mo_purge 2 = .ok (.putfield 32, 3) := by decide +kernel
theorem d_Mo_purge_5 : decode b_Mo_purge 5 = .ok (.iconst 0, 1) := by decide +kernel
theorem d_Mo_purge_6 : decode b_Mo_purge 6 = .ok (.istore_n 2, 1) := by decide +kernel
theorem d_Mo_purge_7 : decode b_Mo_purge 7 = .ok (.aload_n 0, 1) := by decide +kernel
theorem d_Mo_purge_8 : decode b_Mo_purge 8 = .ok (.getfield 181, 3) := by decide +kernel
theorem d_Mo_purge_11 : decode b_Mo_purge 11 = .ok (.iconst 1, 1) := by decide +kernel
theorem d_Mo_purge_12 : decode b_Mo_purge 12 = .ok (.isub, 1) := by decide +kernel
theorem d_Mo_purge_13 : decode b_Mo_purge 13 = .ok (.istore_n 3, 1) := by decide +kernel
theorem d_Mo_purge_14 : decode b_Mo_purge 14 = .ok (.iload_n 3, 1) := by decide +kernel
theorem d_Mo_purge_15 : decode b_Mo_purge 15 = .ok (.ifCond .lt 30, 3) := by decide +kernel
theorem d_Mo_purge_45 : decode b_Mo_purge 45 = .ok (.iload_n 2, 1) := by decide +kernel
theorem d_Mo_purge_46 : decode b_Mo_purge 46 = .ok (.ireturn, 1) := by decide +kernel
theorem d_Mo_read_0 : decode b_Mo_read 0 = .ok (.aload_n 0, 1) := by decide +kernel
theorem d_Mo_read_1 : decode b_Mo_read 1 = .ok (.getfield 35, 3) := by decide +kernel
theorem d_Mo_read_4 : decode b_Mo_read 4 = .ok (.istore_n 1, 1) := by decide +kernel
theorem d_Mo_read_5 : decode b_Mo_read 5 = .ok (.aload_n 0, 1) := by decide +kernel
theorem d_Mo_read_6 : decode b_Mo_read 6 = .ok (.iconst 0, 1) := by decide +kernel
theorem d_Mo_read_7 : decode b_Mo_read 7 = .ok (.putfield 35, 3) := by decide +kernel
theorem d_Mo_read_10 : decode b_Mo_read 10 = .ok (.aload_n 0, 1) := by decide +kernel
theorem d_Mo_read_11 : decode b_Mo_read 11 = .ok (.iconst (-1), 1) := by decide +kernel
theorem d_Mo_read_12 : decode b_Mo_read 12 = .ok (.putfield 13, 3) := by decide +kernel
theorem d_Mo_read_15 : decode b_Mo_read 15 = .ok (.new 17, 3) := by decide +kernel
theorem d_Mo_read_18 : decode b_Mo_read 18 = .ok (.dup, 1) := by decide +kernel
theorem d_Mo_read_19 : decode b_Mo_read 19 = .ok (.iload_n 1, 1) := by decide +kernel
theorem d_Mo_read_20 : decode b_Mo_read 20 = .ok (.invokespecial 19, 3) := by decide +kernel
theorem d_Mo_read_23 : decode b_Mo_read 23 = .ok (.astore_n 2, 1) := by decide +kernel
theorem d_Mo_read_24 : decode b_Mo_read 24 = .ok (.iconst 0, 1) := by decide +kernel
theorem d_Mo_read_25 : decode b_Mo_read 25 = .ok (.istore_n 3, 1) := by decide +kernel
theorem d_Mo_read_26 : decode b_Mo_read 26 = .ok (.iload_n 3, 1) := by decide +kernel
theorem d_Mo_read_27 : decode b_Mo_read 27 = .ok (.iload_n 1, 1) := by decide +kernel
theorem d_Mo_read_28 : decode b_Mo_read 28 = .ok (.if_icmp .ge 21, 3) := by decide +kernel
theorem d_Mo_read_49 : decode b_Mo_read 49 = .ok (.iconst 0, 1) := by decide +kernel
theorem d_Mo_read_50 : decode b_Mo_read 50 = .ok (.istore_n 3, 1) := by decide +kernel
theorem d_Mo_read_51 : decode b_Mo_read 51 = .ok (.iload_n 3, 1) := by decide +kernel
theorem d_Mo_read_52 : decode b_Mo_read 52 = .ok (.iload_n 1, 1) := by decide +kernel
theorem d_Mo_read_53 : decode b_Mo_read 53 = .ok (.if_icmp .ge 141, 3) := by decide +kernel
theorem d_Mo_read_194 : decode b_Mo_read 194 = .ok (.aload_n 2, 1) := by decide +kernel
theorem d_Mo_read_195 : decode b_Mo_read 195 = .ok (.areturn, 1) := by decide +kernel
theorem d_Mo_valueOf_0 : decode b_Mo_valueOf 0 = .ok (.aconst_null, 1) := by decide +kernel
theorem d_Mo_valueOf_1 : decode b_Mo_valueOf 1 = .ok (.astore_n 2, 1) := by decide +kernel
theorem d_Mo_valueOf_2 : decode b_Mo_valueOf 2 = .ok (.iconst 0, 1) := by decide +kernel
theorem d_Mo_valueOf_3 : decode b_Mo_valueOf 3 = .ok (.istore_n 3, 1) := by decide +kernel
theorem d_Mo_valueOf_4 : decode b_Mo_valueOf 4 = .ok (.iload_n 3, 1) := by decide +kernel
theorem d_Mo_valueOf_5 : decode b_Mo_valueOf 5 = .ok (.aload_n 0, 1) := by decide +kernel
theorem d_Mo_valueOf_6 : decode b_Mo_valueOf 6 = .ok (.getfield 57, 3) := by decide +kernel
theorem d_Mo_valueOf_9 : decode b_Mo_valueOf 9 = .ok (.if_icmp .ge 134, 3) := by decide +kernel
theorem d_Mo_valueOf_143 : decode b_Mo_valueOf 143 = .ok (.aload_n 2, 1) := by decide +kernel
theorem d_Mo_valueOf_144 : decode b_Mo_valueOf 144 = .ok (.areturn, 1) := by decide +kernel
theorem d_Mo_cacheControl_0 : decode b_Mo_cacheControl 0 = .ok (.ldc2_w 109, 3) := by decide +kernel
theorem d_Mo_cacheControl_3 : decode b_Mo_cacheControl 3 = .ok (.ldc2_w 111, 3) := by decide +kernel
theorem d_Mo_cacheControl_6 : decode b_Mo_cacheControl 6 = .ok (.invokestatic 105, 3) := by decide +kernel
theorem d_Mo_cacheControl_9 : decode b_Mo_cacheControl 9 = .ok (.areturn, 1) := by decide +kernel
theorem d_Mo_word_0 : decode b_Mo_word 0 = .ok (.bipush (-2), 2) := by decide +kernel
theorem d_Mo_word_2 : decode b_Mo_word 2 = .ok (.istore_n 2, 1) := by decide +kernel
theorem d_Mo_word_3 : decode b_Mo_word 3 = .ok (.aload_n 0, 1) := by decide +kernel
theorem d_Mo_word_4 : decode b_Mo_word 4 = .ok (.ifnonnull 5, 3) := by decide +kernel
theorem d_Mo_word_7 : decode b_Mo_word 7 = .ok (.iload_n 2, 1) := by decide +kernel
theorem d_Mo_word_8 : decode b_Mo_word 8 = .ok (.ireturn, 1) := by decide +kernel
theorem d_Mo_has_0 : decode b_Mo_has 0 = .ok (.aload_n 0, 1) := by decide +kernel
theorem d_Mo_has_1 : decode b_Mo_has 1 = .ok (.lload_n 1, 1) := by decide +kernel
theorem d_Mo_has_2 : decode b_Mo_has 2 = .ok (.lload_n 3, 1) := by decide +kernel
theorem d_Mo_has_3 : decode b_Mo_has 3 = .ok (.invokestatic 105, 3) := by decide +kernel
theorem d_Mo_has_6 : decode b_Mo_has 6 = .ok (.invokestatic 113, 3) := by decide +kernel
theorem d_Mo_has_9 : decode b_Mo_has 9 = .ok (.bipush (-2), 2) := by decide +kernel
theorem d_Mo_has_11 : decode b_Mo_has 11 = .ok (.if_icmp .eq 7, 3) := by decide +kernel
theorem d_Mo_has_18 : decode b_Mo_has 18 = .ok (.iconst 0, 1) := by decide +kernel
theorem d_Mo_has_19 : decode b_Mo_has 19 = .ok (.ireturn, 1) := by decide +kernel
theorem d_Mo_numberIn_0 : decode b_Mo_numberIn 0 = .ok (.aload_n 0, 1) := by decide +kernel
theorem d_Mo_numberIn_1 : decode b_Mo_numberIn 1 = .ok (.aload_n 1, 1) := by decide +kernel
theorem d_Mo_numberIn_2 : decode b_Mo_numberIn 2 = .ok (.invokestatic 91, 3) := by decide +kernel
theorem d_Mo_numberIn_5 : decode b_Mo_numberIn 5 = .ok (.astore_n 2, 1) := by decide +kernel
theorem d_Mo_numberIn_6 : decode b_Mo_numberIn 6 = .ok (.aload_n 2, 1) := by decide +kernel
theorem d_Mo_numberIn_7 : decode b_Mo_numberIn 7 = .ok (.ifnonnull 7, 3) := by decide +kernel
theorem d_Mo_numberIn_10 : decode b_Mo_numberIn 10 = .ok (.iconst (-1), 1) := by decide +kernel
theorem d_Mo_numberIn_11 : decode b_Mo_numberIn 11 = .ok (.goto 8, 3) := by decide +kernel
theorem d_Mo_numberIn_19 : decode b_Mo_numberIn 19 = .ok (.ireturn, 1) := by decide +kernel
theorem d_Mo_etagOf_0 : decode b_Mo_etagOf 0 = .ok (.aload_n 0, 1) := by decide +kernel
theorem d_Mo_etagOf_1 : decode b_Mo_etagOf 1 = .ok (.ldc2_w 103, 3) := by decide +kernel
theorem d_Mo_etagOf_4 : decode b_Mo_etagOf 4 = .ok (.lconst 0, 1) := by decide +kernel
theorem d_Mo_etagOf_5 : decode b_Mo_etagOf 5 = .ok (.invokestatic 105, 3) := by decide +kernel
theorem d_Mo_etagOf_8 : decode b_Mo_etagOf 8 = .ok (.invokestatic 91, 3) := by decide +kernel
theorem d_Mo_etagOf_11 : decode b_Mo_etagOf 11 = .ok (.astore_n 1, 1) := by decide +kernel
theorem d_Mo_etagOf_12 : decode b_Mo_etagOf 12 = .ok (.aload_n 1, 1) := by decide +kernel
theorem d_Mo_etagOf_13 : decode b_Mo_etagOf 13 = .ok (.ifnull 8, 3) := by decide +kernel
theorem d_Mo_etagOf_21 : decode b_Mo_etagOf 21 = .ok (.aconst_null, 1) := by decide +kernel
theorem d_Mo_etagOf_22 : decode b_Mo_etagOf 22 = .ok (.goto 4, 3) := by decide +kernel
theorem d_Mo_etagOf_26 : decode b_Mo_etagOf 26 = .ok (.areturn, 1) := by decide +kernel
theorem d_Mo_theOne_0 : decode b_Mo_theOne 0 = .ok (.iconst (-1), 1) := by decide +kernel
theorem d_Mo_theOne_1 : decode b_Mo_theOne 1 = .ok (.istore_n 2, 1) := by decide +kernel
theorem d_Mo_theOne_2 : decode b_Mo_theOne 2 = .ok (.iconst 0, 1) := by decide +kernel
theorem d_Mo_theOne_3 : decode b_Mo_theOne 3 = .ok (.istore_n 3, 1) := by decide +kernel
theorem d_Mo_theOne_4 : decode b_Mo_theOne 4 = .ok (.iload_n 3, 1) := by decide +kernel
theorem d_Mo_theOne_5 : decode b_Mo_theOne 5 = .ok (.aload_n 0, 1) := by decide +kernel
theorem d_Mo_theOne_6 : decode b_Mo_theOne 6 = .ok (.getfield 181, 3) := by decide +kernel
theorem d_Mo_theOne_9 : decode b_Mo_theOne 9 = .ok (.if_icmp .ge 93, 3) := by decide +kernel
theorem d_Mo_theOne_102 : decode b_Mo_theOne 102 = .ok (.iload_n 2, 1) := by decide +kernel
theorem d_Mo_theOne_103 : decode b_Mo_theOne 103 = .ok (.ireturn, 1) := by decide +kernel
theorem d_Mo_placeOf_0 : decode b_Mo_placeOf 0 = .ok (.iconst 0, 1) := by decide +kernel
theorem d_Mo_placeOf_1 : decode b_Mo_placeOf 1 = .ok (.istore_n 2, 1) := by decide +kernel
theorem d_Mo_placeOf_2 : decode b_Mo_placeOf 2 = .ok (.iload_n 2, 1) := by decide +kernel
theorem d_Mo_placeOf_3 : decode b_Mo_placeOf 3 = .ok (.aload_n 0, 1) := by decide +kernel
theorem d_Mo_placeOf_4 : decode b_Mo_placeOf 4 = .ok (.getfield 181, 3) := by decide +kernel
theorem d_Mo_placeOf_7 : decode b_Mo_placeOf 7 = .ok (.if_icmp .ge 98, 3) := by decide +kernel
theorem d_Mo_placeOf_105 : decode b_Mo_placeOf 105 = .ok (.iconst (-1), 1) := by decide +kernel
theorem d_Mo_placeOf_106 : decode b_Mo_placeOf 106 = .ok (.ireturn, 1) := by decide +kernel
theorem d_Mo_hasStar_0 : decode b_Mo_hasStar 0 = .ok (.iconst 0, 1) := by decide +kernel
theorem d_Mo_hasStar_1 : decode b_Mo_hasStar 1 = .ok (.istore_n 1, 1) := by decide +kernel
theorem d_Mo_hasStar_2 : decode b_Mo_hasStar 2 = .ok (.iload_n 1, 1) := by decide +kernel
theorem d_Mo_hasStar_3 : decode b_Mo_hasStar 3 = .ok (.aload_n 0, 1) := by decide +kernel
theorem d_Mo_hasStar_4 : decode b_Mo_hasStar 4 = .ok (.arraylength, 1) := by decide +kernel
theorem d_Mo_hasStar_5 : decode b_Mo_hasStar 5 = .ok (.if_icmp .ge 29, 3) := by decide +kernel
theorem d_Mo_hasStar_34 : decode b_Mo_hasStar 34 = .ok (.iconst 0, 1) := by decide +kernel
theorem d_Mo_hasStar_35 : decode b_Mo_hasStar 35 = .ok (.ireturn, 1) := by decide +kernel
theorem d_Mo_isPath_0 : decode b_Mo_isPath 0 = .ok (.iload_n 0, 1) := by decide +kernel
theorem d_Mo_isPath_1 : decode b_Mo_isPath 1 = .ok (.ifCond .lt 13, 3) := by decide +kernel
theorem d_Mo_isPath_4 : decode b_Mo_isPath 4 = .ok (.iload_n 0, 1) := by decide +kernel
theorem d_Mo_isPath_5 : decode b_Mo_isPath 5 = .ok (.bipush 16, 2) := by decide +kernel
theorem d_Mo_isPath_7 : decode b_Mo_isPath 7 = .ok (.if_icmp .ge 7, 3) := by decide +kernel
theorem d_Mo_isPath_10 : decode b_Mo_isPath 10 = .ok (.iconst 1, 1) := by decide +kernel
theorem d_Mo_isPath_11 : decode b_Mo_isPath 11 = .ok (.goto 4, 3) := by decide +kernel
theorem d_Mo_isPath_15 : decode b_Mo_isPath 15 = .ok (.ireturn, 1) := by decide +kernel
theorem d_Mo_isPath_14 : decode b_Mo_isPath 14 = .ok (.iconst 0, 1) := by decide +kernel
set_option maxRecDepth 20000 in
theorem w_712 : Cond.methodLink "VaryStoreModel$Text" 1 objectInit ∈ TB := tb_in 712 (by decide +kernel) (by decide +kernel)
set_option maxRecDepth 20000 in
theorem w_716 : Cond.fieldLink "VaryStoreModel$Text" 7 "VaryStoreModel$Text" "begin" "[I"  ∈ TB := tb_in 716 (by decide +kernel) (by decide +kernel)
set_option maxRecDepth 20000 in
theorem w_718 : Cond.fieldLink "VaryStoreModel$Text" 13 "VaryStoreModel$Text" "colon" "[I"  ∈ TB := tb_in 718 (by decide +kernel) (by decide +kernel)
set_option maxRecDepth 20000 in
theorem w_720 : Cond.fieldLink "VaryStoreModel$Text" 16 "VaryStoreModel$Text" "end" "[I"  ∈ TB := tb_in 720 (by decide +kernel) (by decide +kernel)
set_option maxRecDepth 20000 in
theorem w_713 : Cond.fieldLink "VaryStoreModel$Text" 19 "VaryStoreModel$Text" "chars" "[I"  ∈ TB := tb_in 713 (by decide +kernel) (by decide +kernel)
set_option maxRecDepth 20000 in
theorem w_874 : Cond.methodLink "VaryStoreModel$Thing" 3 objectInit ∈ TB := tb_in 874 (by decide +kernel) (by decide +kernel)
set_option maxRecDepth 20000 in
theorem w_876 : Cond.fieldLink "VaryStoreModel$Thing" 9 "VaryStoreModel$Thing" "sMaxAge" "I"  ∈ TB := tb_in 876 (by decide +kernel) (by decide +kernel)
set_option maxRecDepth 20000 in
theorem w_878 : Cond.fieldLink "VaryStoreModel$Thing" 15 "VaryStoreModel$Thing" "maxAge" "I"  ∈ TB := tb_in 878 (by decide +kernel) (by decide +kernel)
set_option maxRecDepth 20000 in
theorem w_706 : Cond.methodLink "VaryStoreModel" 1 objectInit ∈ TB := tb_in 706 (by decide +kernel) (by decide +kernel)
set_option maxRecDepth 20000 in
theorem w_735 : Cond.fieldLink "VaryStoreModel" 7 "VaryStoreModel" "tape" "[I"  ∈ TB := tb_in 735 (by decide +kernel) (by decide +kernel)
set_option maxRecDepth 20000 in
theorem w_737 : Cond.fieldLink "VaryStoreModel" 13 "VaryStoreModel" "fault" "I"  ∈ TB := tb_in 737 (by decide +kernel) (by decide +kernel)
set_option maxRecDepth 20000 in
theorem w_708 : Cond.instantiable "VaryStoreModel$Text" 5 ∈ TB := tb_in 708 (by decide +kernel) (by decide +kernel)
set_option maxRecDepth 20000 in
theorem w_707 : Cond.classLink "VaryStoreModel" 17 "VaryStoreModel$Text" ∈ TB := tb_in 707 (by decide +kernel) (by decide +kernel)
set_option maxRecDepth 20000 in
theorem w_36 : Cond.initialized "VaryStoreModel$Text" ∈ TB := tb_in 36 (by decide +kernel) (by decide +kernel)
set_option maxRecDepth 20000 in
theorem w_711 : Cond.code ⟨"VaryStoreModel$Text", "<init>", "(I)V"⟩ prog_9_method_1_code 2 none ∈ TB := tb_in 711 (by decide +kernel) (by decide +kernel)
set_option maxRecDepth 20000 in
theorem w_709 : Cond.methodLink "VaryStoreModel" 19 ⟨"VaryStoreModel$Text", "<init>", "(I)V"⟩ ∈ TB := tb_in 709 (by decide +kernel) (by decide +kernel)
set_option maxRecDepth 20000 in
theorem w_710 : Cond.instanceMethod ⟨"VaryStoreModel$Text", "<init>", "(I)V"⟩ ∈ TB := tb_in 710 (by decide +kernel) (by decide +kernel)
set_option maxRecDepth 20000 in
theorem w_741 : Cond.fieldLink "VaryStoreModel" 22 "VaryStoreModel" "request" "LVaryStoreModel$Text;"  ∈ TB := tb_in 741 (by decide +kernel) (by decide +kernel)
set_option maxRecDepth 20000 in
theorem w_734 : Cond.arrayOver (.object "VaryStoreModel$Thing") ∈ NB := nb_in 734 (by decide +kernel) (by decide +kernel)
set_option maxRecDepth 20000 in
theorem w_733 : Cond.classLink "VaryStoreModel" 26 "VaryStoreModel$Thing" ∈ TB := tb_in 733 (by decide +kernel) (by decide +kernel)
set_option maxRecDepth 20000 in
theorem w_742 : Cond.fieldLink "VaryStoreModel" 28 "VaryStoreModel" "things" "[LVaryStoreModel$Thing;"  ∈ TB := tb_in 742 (by decide +kernel) (by decide +kernel)
set_option maxRecDepth 20000 in
theorem w_739 : Cond.fieldLink "VaryStoreModel" 32 "VaryStoreModel" "thrown" "I"  ∈ TB := tb_in 739 (by decide +kernel) (by decide +kernel)
set_option maxRecDepth 20000 in
theorem w_743 : Cond.fieldLink "VaryStoreModel" 181 "VaryStoreModel" "many" "I"  ∈ TB := tb_in 743 (by decide +kernel) (by decide +kernel)
set_option maxRecDepth 20000 in
theorem w_736 : Cond.fieldLink "VaryStoreModel" 35 "VaryStoreModel" "tapeLong" "I"  ∈ TB := tb_in 736 (by decide +kernel) (by decide +kernel)
set_option maxRecDepth 20000 in
theorem w_715 : Cond.fieldLink "VaryStoreModel" 57 "VaryStoreModel$Text" "lines" "I"  ∈ TB := tb_in 715 (by decide +kernel) (by decide +kernel)
set_option maxRecDepth 20000 in
theorem w_795 : Cond.constantLong "VaryStoreModel" 109 7161114182521021295 ∈ TB := tb_in 795 (by decide +kernel) (by decide +kernel)
set_option maxRecDepth 20000 in
theorem w_796 : Cond.constantLong "VaryStoreModel" 111 474400059244 ∈ TB := tb_in 796 (by decide +kernel) (by decide +kernel)
set_option maxRecDepth 20000 in
theorem w_35 : Cond.initialized "VaryStoreModel" ∈ TB := tb_in 35 (by decide +kernel) (by decide +kernel)
set_option maxRecDepth 20000 in
theorem w_799 : Cond.code ⟨"VaryStoreModel", "name", "(JJ)[I"⟩ prog_8_method_14_code 8 (some (.array .int)) ∈ TB := tb_in 799 (by decide +kernel) (by decide +kernel)
set_option maxRecDepth 20000 in
theorem w_797 : Cond.methodLink "VaryStoreModel" 105 ⟨"VaryStoreModel", "name", "(JJ)[I"⟩ ∈ TB := tb_in 797 (by decide +kernel) (by decide +kernel)
set_option maxRecDepth 20000 in
theorem w_798 : Cond.static ⟨"VaryStoreModel", "name", "(JJ)[I"⟩ ∈ TB := tb_in 798 (by decide +kernel) (by decide +kernel)
set_option maxRecDepth 20000 in
theorem w_840 : Cond.code ⟨"VaryStoreModel", "word", "([I[I)I"⟩ prog_8_method_20_code 9 (some .int) ∈ TB := tb_in 840 (by decide +kernel) (by decide +kernel)
set_option maxRecDepth 20000 in
theorem w_838 : Cond.methodLink "VaryStoreModel" 113 ⟨"VaryStoreModel", "word", "([I[I)I"⟩ ∈ TB := tb_in 838 (by decide +kernel) (by decide +kernel)
set_option maxRecDepth 20000 in
theorem w_839 : Cond.static ⟨"VaryStoreModel", "word", "([I[I)I"⟩ ∈ TB := tb_in 839 (by decide +kernel) (by decide +kernel)
set_option maxRecDepth 20000 in
theorem w_802 : Cond.code ⟨"VaryStoreModel", "valueOf", "(LVaryStoreModel$Text;[I)[I"⟩ prog_8_method_13_code 7 (some (.array .int)) ∈ TB := tb_in 802 (by decide +kernel) (by decide +kernel)
set_option maxRecDepth 20000 in
theorem w_800 : Cond.methodLink "VaryStoreModel" 91 ⟨"VaryStoreModel", "valueOf", "(LVaryStoreModel$Text;[I)[I"⟩ ∈ TB := tb_in 800 (by decide +kernel) (by decide +kernel)
set_option maxRecDepth 20000 in
theorem w_801 : Cond.static ⟨"VaryStoreModel", "valueOf", "(LVaryStoreModel$Text;[I)[I"⟩ ∈ TB := tb_in 801 (by decide +kernel) (by decide +kernel)
set_option maxRecDepth 20000 in
theorem w_918 : Cond.constantLong "VaryStoreModel" 103 1702125927 ∈ TB := tb_in 918 (by decide +kernel) (by decide +kernel)
set_option maxRecDepth 100000 in
theorem uw_MT : ∀ w ∈ u_ws R_MT F_MT 5, w ∈ TB := by decide +kernel
set_option maxRecDepth 100000 in
theorem fa_MT_7 : FA "VaryStoreModel$Text" 7 7 2 R_MT F_MT 5 t_MT := ⟨rfl, uw_MT, by decide, to_MT, n_MT, Or.inl w_716⟩
set_option maxRecDepth 100000 in
theorem fa_MT_13 : FA "VaryStoreModel$Text" 13 7 3 R_MT F_MT 5 t_MT := ⟨rfl, uw_MT, by decide, to_MT, n_MT, Or.inl w_718⟩
set_option maxRecDepth 100000 in
theorem fa_MT_16 : FA "VaryStoreModel$Text" 16 7 4 R_MT F_MT 5 t_MT := ⟨rfl, uw_MT, by decide, to_MT, n_MT, Or.inl w_720⟩
set_option maxRecDepth 100000 in
theorem fa_MT_19 : FA "VaryStoreModel$Text" 19 7 0 R_MT F_MT 5 t_MT := ⟨rfl, uw_MT, by decide, to_MT, n_MT, Or.inl w_713⟩
set_option maxRecDepth 100000 in
theorem uw_Mg : ∀ w ∈ u_ws R_Mg F_Mg 12, w ∈ TB := by decide +kernel
set_option maxRecDepth 100000 in
theorem fa_Mg_9 : FA "VaryStoreModel$Thing" 9 8 1 R_Mg F_Mg 12 t_Mg := ⟨rfl, uw_Mg, by decide, to_Mg, n_Mg, Or.inl w_876⟩
set_option maxRecDepth 100000 in
theorem fa_Mg_15 : FA "VaryStoreModel$Thing" 15 8 2 R_Mg F_Mg 12 t_Mg := ⟨rfl, uw_Mg, by decide, to_Mg, n_Mg, Or.inl w_878⟩
set_option maxRecDepth 100000 in
theorem uw_Mo : ∀ w ∈ u_ws R_Mo F_Mo 9, w ∈ TB := by decide +kernel
set_option maxRecDepth 100000 in
theorem fa_Mo_7 : FA "VaryStoreModel" 7 6 0 R_Mo F_Mo 9 t_Mo := ⟨rfl, uw_Mo, by decide, to_Mo, n_Mo, Or.inl w_735⟩
set_option maxRecDepth 100000 in
theorem fa_Mo_13 : FA "VaryStoreModel" 13 6 2 R_Mo F_Mo 9 t_Mo := ⟨rfl, uw_Mo, by decide, to_Mo, n_Mo, Or.inl w_737⟩
set_option maxRecDepth 100000 in
theorem fa_Mo_22 : FA "VaryStoreModel" 22 6 6 R_Mo F_Mo 9 t_Mo := ⟨rfl, uw_Mo, by decide, to_Mo, n_Mo, Or.inl w_741⟩
set_option maxRecDepth 100000 in
theorem fa_Mo_28 : FA "VaryStoreModel" 28 6 7 R_Mo F_Mo 9 t_Mo := ⟨rfl, uw_Mo, by decide, to_Mo, n_Mo, Or.inl w_742⟩
set_option maxRecDepth 100000 in
theorem fa_Mo_32 : FA "VaryStoreModel" 32 6 4 R_Mo F_Mo 9 t_Mo := ⟨rfl, uw_Mo, by decide, to_Mo, n_Mo, Or.inl w_739⟩
set_option maxRecDepth 100000 in
theorem fa_Mo_181 : FA "VaryStoreModel" 181 6 8 R_Mo F_Mo 9 t_Mo := ⟨rfl, uw_Mo, by decide, to_Mo, n_Mo, Or.inl w_743⟩
set_option maxRecDepth 100000 in
theorem fa_Mo_35 : FA "VaryStoreModel" 35 6 1 R_Mo F_Mo 9 t_Mo := ⟨rfl, uw_Mo, by decide, to_Mo, n_Mo, Or.inl w_736⟩
set_option maxRecDepth 100000 in
theorem fa_Mo_57 : FA "VaryStoreModel" 57 7 1 R_MT F_MT 5 t_MT := ⟨rfl, uw_MT, by decide, to_MT, n_MT, Or.inl w_715⟩
def k_MT_init : MS := ("VaryStoreModel$Text", b_MT_init, 2, none, "<init>", { frames := 1, cells := 4, slots := 300, locals := 12 }, [])
set_option maxRecDepth 100000 in
set_option maxHeartbeats 4000000 in
theorem c_MT_init (Γ : GE) (a : Nat) {M : HM}  (p0 : M (a) = some (.inr (7, [.null, .int (iI (0)), .null, .null, .null]))) : CT Γ k_MT_init y_MT_init [.ref (a), .int (iI (0))] M (a + 1) (fun v M' n' => a + 5 = n' ∧ (∀ q, q ≠ a + 1 → q ≠ a → q ≠ a + 2 → q ≠ a + 3 → q ≠ a + 4 → M' q = M q) ∧ v = none ∧ M' (a + 1) = some (.inl (Γ.2.2.1 1, 100, .inl (fun _ => iI 0))) ∧ M' (a) = some (.inr (7, [.ref (a + 4), .int (iI (0)), .ref (a + 1), .ref (a + 2), .ref (a + 3)])) ∧ M' (a + 2) = some (.inl (Γ.2.2.1 1, 100, .inl (fun _ => iI 0))) ∧ M' (a + 3) = some (.inl (Γ.2.2.1 1, 100, .inl (fun _ => iI 0))) ∧ M' (a + 4) = some (.inl (Γ.2.2.1 1, 0, .inl (fun _ => iI 0)))) := by
  refine CT.of (by decide) rfl rfl 0 rfl (Nat.le_of_ble_eq_true rfl) rfl ?_
  refine g_aload_n d_MT_init_0 rfl ?_
  refine g_objInit d_MT_init_1 w_712 w_56 w_57 (by decide) (Nat.le_of_ble_eq_true rfl) ?_
  refine g_aload_n d_MT_init_4 rfl ?_
  refine g_bipush d_MT_init_5 (by decide) ?_
  refine g_newai (k := 100) d_MT_init_7 w_118 (by decide) (by decide) (by decide) ?_
  refine g_putF fa_MT_7 d_MT_init_9 ((hu_ne (by omega)).trans p0) (Nat.le_of_ble_eq_true rfl) rfl w_716 rfl rfl rfl rfl ?_
  refine g_aload_n d_MT_init_12 rfl ?_
  refine g_bipush d_MT_init_13 (by decide) ?_
  refine g_newai (k := 100) d_MT_init_15 w_118 (by decide) (by decide) (by decide) ?_
  refine g_putF fa_MT_13 d_MT_init_17 ((hu_ne (by omega)).trans (hu_same _ _ _)) (Nat.le_of_ble_eq_true rfl) rfl w_718 rfl rfl rfl rfl ?_
  refine g_aload_n d_MT_init_20 rfl ?_
  refine g_bipush d_MT_init_21 (by decide) ?_
  refine g_newai (k := 100) d_MT_init_23 w_118 (by decide) (by decide) (by decide) ?_
  refine g_putF fa_MT_16 d_MT_init_25 ((hu_ne (by omega)).trans (hu_same _ _ _)) (Nat.le_of_ble_eq_true rfl) rfl w_720 rfl rfl rfl rfl ?_
  refine g_aload_n d_MT_init_28 rfl ?_
  refine g_iload_n d_MT_init_29 rfl ?_
  refine g_newai (k := 0) d_MT_init_30 w_118 (by decide) (by decide) (by decide) ?_
  refine g_putF fa_MT_19 d_MT_init_32 ((hu_ne (by omega)).trans (hu_same _ _ _)) (Nat.le_of_ble_eq_true rfl) rfl w_713 rfl rfl rfl rfl ?_
  refine g_vret d_MT_init_35 rfl ?_ (by decide) (by decide)
  exact ⟨rfl, fun q e0 e1 e2 e3 e4 => ((hu_ne (by omega)).trans ((hu_ne (by omega)).trans ((hu_ne (by omega)).trans ((hu_ne (by omega)).trans ((hu_ne (by omega)).trans ((hu_ne (by omega)).trans ((hu_ne (by omega)).trans ((hu_ne (by omega)).trans rfl)))))))), rfl, ((hu_ne (by omega)).trans ((hu_ne (by omega)).trans ((hu_ne (by omega)).trans ((hu_ne (by omega)).trans ((hu_ne (by omega)).trans ((hu_ne (by omega)).trans ((hu_ne (by omega)).trans (hu_same _ _ _)))))))), (hu_same _ _ _), ((hu_ne (by omega)).trans ((hu_ne (by omega)).trans ((hu_ne (by omega)).trans ((hu_ne (by omega)).trans ((hu_ne (by omega)).trans (hu_same _ _ _)))))), ((hu_ne (by omega)).trans ((hu_ne (by omega)).trans ((hu_ne (by omega)).trans (hu_same _ _ _)))), ((hu_ne (by omega)).trans (hu_same _ _ _))⟩
def k_Mg_init : MS := ("VaryStoreModel$Thing", b_Mg_init, 1, none, "<init>", { frames := 1, cells := 0, slots := 0, locals := 12 }, [])
set_option maxRecDepth 100000 in
set_option maxHeartbeats 4000000 in
theorem c_Mg_init (Γ : GE) (a : Nat) {M : HM}  (p0 : M (a) = some (.inr (8, [.int (iI (0)), .int (iI (0)), .int (iI (0)), .int (iI (0)), .int (iI (0)), .int (iI (0)), .int (iI (0)), .int (iI (0)), .null, .null, .null, .long (0)]))) : CT Γ k_Mg_init y_Mg_init [.ref (a)] M (a + 1) (fun v M' n' => a + 1 = n' ∧ (∀ q, q ≠ a → M' q = M q) ∧ v = none ∧ M' (a) = some (.inr (8, [.int (iI (0)), .int (iI ((-2))), .int (iI ((-2))), .int (iI (0)), .int (iI (0)), .int (iI (0)), .int (iI (0)), .int (iI (0)), .null, .null, .null, .long (0)]))) := by
  refine CT.of (by decide) rfl rfl 0 rfl (Nat.le_of_ble_eq_true rfl) rfl ?_
  refine g_aload_n d_Mg_init_0 rfl ?_
  refine g_objInit d_Mg_init_1 w_874 w_56 w_57 (by decide) (Nat.le_of_ble_eq_true rfl) ?_
  refine g_aload_n d_Mg_init_4 rfl ?_
  refine g_bipush d_Mg_init_5 (by decide) ?_
  refine g_put fa_Mg_9 d_Mg_init_7 p0 (Nat.le_of_ble_eq_true rfl) rfl rfl rfl ?_
  refine g_aload_n d_Mg_init_10 rfl ?_
  refine g_bipush d_Mg_init_11 (by decide) ?_
  refine g_put fa_Mg_15 d_Mg_init_13 (hu_same _ _ _) (Nat.le_of_ble_eq_true rfl) rfl rfl rfl ?_
  refine g_vret d_Mg_init_16 rfl ?_ (by decide) (by decide)
  exact ⟨rfl, fun q e0 => ((hu_ne (by omega)).trans ((hu_ne (by omega)).trans rfl)), rfl, (hu_same _ _ _)⟩
def k_Mo_init : MS := ("VaryStoreModel", b_Mo_init, 1, none, "<init>", { frames := 2, cells := 7, slots := 630, locals := 33 }, [])
set_option maxRecDepth 100000 in
set_option maxHeartbeats 4000000 in
theorem c_Mo_init (Γ : GE) (a : Nat) {M : HM}  (p0 : M (a) = some (.inr (6, [.null, .int (iI (0)), .int (iI (0)), .int (iI (0)), .int (iI (0)), .long (0), .null, .null, .int (iI (0))]))) : CT Γ k_Mo_init y_Mo_init [.ref (a)] M (a + 1) (fun v M' n' => a + 8 = n' ∧ (∀ q, q ≠ a + 1 → q ≠ a → q ≠ a + 2 → q ≠ a + 3 → q ≠ a + 4 → q ≠ a + 5 → q ≠ a + 6 → q ≠ a + 7 → M' q = M q) ∧ v = none ∧ M' (a + 1) = some (.inl (Γ.2.2.1 1, 300, .inl (fun _ => iI 0))) ∧ M' (a) = some (.inr (6, [.ref (a + 1), .int (iI (0)), .int (iI ((-1))), .int (iI (0)), .int (iI (0)), .long (0), .ref (a + 2), .ref (a + 7), .int (iI (0))])) ∧ M' (a + 2) = some (.inr (7, [.ref (a + 6), .int (iI (0)), .ref (a + 3), .ref (a + 4), .ref (a + 5)])) ∧ M' (a + 3) = some (.inl (Γ.2.2.1 1, 100, .inl (fun _ => iI 0))) ∧ M' (a + 4) = some (.inl (Γ.2.2.1 1, 100, .inl (fun _ => iI 0))) ∧ M' (a + 5) = some (.inl (Γ.2.2.1 1, 100, .inl (fun _ => iI 0))) ∧ M' (a + 6) = some (.inl (Γ.2.2.1 1, 0, .inl (fun _ => iI 0))) ∧ M' (a + 7) = some (.inl (Γ.2.2.1 4, 25, .inr (.inr (.inr (.inr (fun _ => none))))))) := by
  refine CT.of (by decide) rfl rfl 0 rfl (Nat.le_of_ble_eq_true rfl) rfl ?_
  refine g_aload_n d_Mo_init_0 rfl ?_
  refine g_objInit d_Mo_init_1 w_706 w_56 w_57 (by decide) (Nat.le_of_ble_eq_true rfl) ?_
  refine g_aload_n d_Mo_init_4 rfl ?_
  refine g_sipush d_Mo_init_5 (by decide) ?_
  refine g_newai (k := 300) d_Mo_init_8 w_118 (by decide) (by decide) (by decide) ?_
  refine g_putF fa_Mo_7 d_Mo_init_10 ((hu_ne (by omega)).trans p0) (Nat.le_of_ble_eq_true rfl) rfl w_735 rfl rfl rfl rfl ?_
  refine g_aload_n d_Mo_init_13 rfl ?_
  refine g_iconst d_Mo_init_14 ?_
  refine g_put fa_Mo_13 d_Mo_init_15 (hu_same _ _ _) (Nat.le_of_ble_eq_true rfl) rfl rfl rfl ?_
  refine g_aload_n d_Mo_init_18 rfl ?_
  refine g_new (ci := 7) t_MT [.null, .int (iI (0)), .null, .null, .null] rfl uw_MT to_MT (fun j hj => by rcases (show j = 0 ∨ j = 1 ∨ j = 2 ∨ j = 3 ∨ j = 4 by omega) with rfl | rfl | rfl | rfl | rfl <;> rfl) d_Mo_init_19 w_707 w_708 w_36 (by decide) (by decide) ?_
  refine g_dup d_Mo_init_22 rfl ?_
  refine g_iconst d_Mo_init_23 ?_
  refine g_callI1 (ν := k_MT_init) ⟨w_709, w_36, w_711, by decide, by decide, by decide +kernel⟩ w_710 rfl rfl (c_MT_init Γ (a + 2)  (hu_same _ _ _)) d_Mo_init_24 ⟨⟨by decide, by decide⟩, ⟨by decide, by decide⟩⟩ (Nat.le_of_ble_eq_true rfl) (fun v1 M1 n1 hQ1 hn1 hd1 => ?_)
  obtain ⟨rfl, hf1, rfl, hw1_0, hw1_1, hw1_2, hw1_3, hw1_4⟩ := hQ1
  refine g_put fa_Mo_22 d_Mo_init_27 ((hf1 (a) (by omega) (by omega) (by omega) (by omega) (by omega)).trans ((hu_ne (by omega)).trans (hu_same _ _ _))) (Nat.le_of_ble_eq_true rfl) rfl rfl rfl ?_
  refine g_aload_n d_Mo_init_30 rfl ?_
  refine g_bipush d_Mo_init_31 (by decide) ?_
  refine g_anew (k := 25) 4 rfl d_Mo_init_33 w_733 w_734 (by decide) (by decide) (by decide) ?_
  refine g_putF fa_Mo_28 d_Mo_init_36 ((hu_ne (by omega)).trans (hu_same _ _ _)) (Nat.le_of_ble_eq_true rfl) rfl w_742 rfl rfl rfl rfl ?_
  refine g_vret d_Mo_init_39 rfl ?_ (by decide) (by decide)
  exact ⟨rfl, fun q e0 e1 e2 e3 e4 e5 e6 e7 => ((hu_ne (by omega)).trans ((hu_ne (by omega)).trans ((hu_ne (by omega)).trans ((hf1 q (by omega) (by omega) (by omega) (by omega) (by omega)).trans ((hu_ne (by omega)).trans ((hu_ne (by omega)).trans ((hu_ne (by omega)).trans ((hu_ne (by omega)).trans rfl)))))))), rfl, ((hu_ne (by omega)).trans ((hu_ne (by omega)).trans ((hu_ne (by omega)).trans ((hf1 (a + 1) (by omega) (by omega) (by omega) (by omega) (by omega)).trans ((hu_ne (by omega)).trans ((hu_ne (by omega)).trans ((hu_ne (by omega)).trans (hu_same _ _ _)))))))), (hu_same _ _ _), ((hu_ne (by omega)).trans ((hu_ne (by omega)).trans ((hu_ne (by omega)).trans hw1_1))), ((hu_ne (by omega)).trans ((hu_ne (by omega)).trans ((hu_ne (by omega)).trans hw1_0))), ((hu_ne (by omega)).trans ((hu_ne (by omega)).trans ((hu_ne (by omega)).trans hw1_2))), ((hu_ne (by omega)).trans ((hu_ne (by omega)).trans ((hu_ne (by omega)).trans hw1_3))), ((hu_ne (by omega)).trans ((hu_ne (by omega)).trans ((hu_ne (by omega)).trans hw1_4))), ((hu_ne (by omega)).trans (hu_same _ _ _))⟩
def k_Mo_thrown : MS := ("VaryStoreModel", b_Mo_thrown, 1, (some .int), "thrown", { frames := 0, cells := 0, slots := 0, locals := 0 }, [])
set_option maxRecDepth 100000 in
set_option maxHeartbeats 4000000 in
theorem c_Mo_thrown (Γ : GE) (r : Nat) (fa : Int) (tm : Int) (th : Int) (ev : Int64) (rq : Nat) {M : HM} {n : Nat}  (p0 : M (r) = some (.inr (6, [.ref (r + 1), .int (iI (0)), .int (iI (fa)), .int (iI (tm)), .int (iI (th)), .long (ev), .ref (rq), .ref (r + 7), .int (iI (0))]))) : CT Γ k_Mo_thrown y_Mo_thrown [.ref (r)] M (n) (fun v M' n' => n = n' ∧ (∀ q, M' q = M q) ∧ v = some (.int (iI (th)))) := by
  refine CT.of (by decide) rfl rfl 0 rfl (Nat.le_of_ble_eq_true rfl) rfl ?_
  refine g_aload_n d_Mo_thrown_0 rfl ?_
  refine g_get fa_Mo_32 d_Mo_thrown_1 p0 rfl ?_
  refine g_iret d_Mo_thrown_4 rfl ?_ (by decide) (by decide)
  exact ⟨rfl, fun q  => rfl, rfl⟩
def k_Mo_fault : MS := ("VaryStoreModel", b_Mo_fault, 1, (some .int), "fault", { frames := 0, cells := 0, slots := 0, locals := 0 }, [])
set_option maxRecDepth 100000 in
set_option maxHeartbeats 4000000 in
theorem c_Mo_fault (Γ : GE) (r : Nat) (fa : Int) (tm : Int) (th : Int) (ev : Int64) (rq : Nat) {M : HM} {n : Nat}  (p0 : M (r) = some (.inr (6, [.ref (r + 1), .int (iI (0)), .int (iI (fa)), .int (iI (tm)), .int (iI (th)), .long (ev), .ref (rq), .ref (r + 7), .int (iI (0))]))) : CT Γ k_Mo_fault y_Mo_fault [.ref (r)] M (n) (fun v M' n' => n = n' ∧ (∀ q, q ≠ r → M' q = M q) ∧ v = some (.int (iI (fa))) ∧ M' (r) = some (.inr (6, [.ref (r + 1), .int (iI (0)), .int (iI (fa)), .int (iI (tm)), .int (iI (0)), .long (ev), .ref (rq), .ref (r + 7), .int (iI (0))]))) := by
  refine CT.of (by decide) rfl rfl 0 rfl (Nat.le_of_ble_eq_true rfl) rfl ?_
  refine g_aload_n d_Mo_fault_0 rfl ?_
  refine g_iconst d_Mo_fault_1 ?_
  refine g_put fa_Mo_32 d_Mo_fault_2 p0 (Nat.le_of_ble_eq_true rfl) rfl rfl rfl ?_
  refine g_aload_n d_Mo_fault_5 rfl ?_
  refine g_get fa_Mo_13 d_Mo_fault_6 (hu_same _ _ _) rfl ?_
  refine g_iret d_Mo_fault_9 rfl ?_ (by decide) (by decide)
  exact ⟨rfl, fun q e0 => ((hu_ne (by omega)).trans rfl), rfl, (hu_same _ _ _)⟩
def k_Mo_things : MS := ("VaryStoreModel", b_Mo_things, 1, (some .int), "things", { frames := 0, cells := 0, slots := 0, locals := 0 }, [])
set_option maxRecDepth 100000 in
set_option maxHeartbeats 4000000 in
theorem c_Mo_things (Γ : GE) (r : Nat) (fa : Int) (tm : Int) (th : Int) (ev : Int64) (rq : Nat) {M : HM} {n : Nat}  (p0 : M (r) = some (.inr (6, [.ref (r + 1), .int (iI (0)), .int (iI (fa)), .int (iI (tm)), .int (iI (th)), .long (ev), .ref (rq), .ref (r + 7), .int (iI (0))]))) : CT Γ k_Mo_things y_Mo_things [.ref (r)] M (n) (fun v M' n' => n = n' ∧ (∀ q, q ≠ r → M' q = M q) ∧ v = some (.int (iI (0))) ∧ M' (r) = some (.inr (6, [.ref (r + 1), .int (iI (0)), .int (iI (fa)), .int (iI (tm)), .int (iI (0)), .long (ev), .ref (rq), .ref (r + 7), .int (iI (0))]))) := by
  refine CT.of (by decide) rfl rfl 0 rfl (Nat.le_of_ble_eq_true rfl) rfl ?_
  refine g_aload_n d_Mo_things_0 rfl ?_
  refine g_iconst d_Mo_things_1 ?_
  refine g_put fa_Mo_32 d_Mo_things_2 p0 (Nat.le_of_ble_eq_true rfl) rfl rfl rfl ?_
  refine g_aload_n d_Mo_things_5 rfl ?_
  refine g_get fa_Mo_181 d_Mo_things_6 (hu_same _ _ _) rfl ?_
  refine g_iret d_Mo_things_9 rfl ?_ (by decide) (by decide)
  exact ⟨rfl, fun q e0 => ((hu_ne (by omega)).trans rfl), rfl, (hu_same _ _ _)⟩
def k_Mo_purge0 : MS := ("VaryStoreModel", b_Mo_purge, 4, (some .int), "purge", { frames := 0, cells := 0, slots := 0, locals := 0 }, [])
set_option maxRecDepth 100000 in
set_option maxHeartbeats 4000000 in
theorem c_Mo_purge0 (Γ : GE) (r : Nat) (fa : Int) (tm : Int) (th : Int) (ev : Int64) (rq : Nat) (path : Int) {M : HM} {n : Nat}  (p0 : M (r) = some (.inr (6, [.ref (r + 1), .int (iI (0)), .int (iI (fa)), .int (iI (tm)), .int (iI (th)), .long (ev), .ref (rq), .ref (r + 7), .int (iI (0))]))) : CT Γ k_Mo_purge0 y_Mo_purge [.ref (r), .int (iI (path))] M (n) (fun v M' n' => n = n' ∧ (∀ q, q ≠ r → M' q = M q) ∧ v = some (.int (iI (0))) ∧ M' (r) = some (.inr (6, [.ref (r + 1), .int (iI (0)), .int (iI (fa)), .int (iI (tm)), .int (iI (0)), .long (ev), .ref (rq), .ref (r + 7), .int (iI (0))]))) := by
  refine CT.of (by decide) rfl rfl 2 rfl (Nat.le_of_ble_eq_true rfl) rfl ?_
  refine g_aload_n d_Mo_purge_0 rfl ?_
  refine g_iconst d_Mo_purge_1 ?_
  refine g_put fa_Mo_32 d_Mo_purge_2 p0 (Nat.le_of_ble_eq_true rfl) rfl rfl rfl ?_
  refine g_iconst d_Mo_purge_5 ?_
  refine g_istore_n d_Mo_purge_6 (by decide) rfl ?_
  refine g_aload_n d_Mo_purge_7 rfl ?_
  refine g_get fa_Mo_181 d_Mo_purge_8 (hu_same _ _ _) rfl ?_
  refine g_iconst d_Mo_purge_11 ?_
  refine g_isub d_Mo_purge_12 ?_
  refine g_istore_n d_Mo_purge_13 (by decide) rfl ?_
  refine g_iload_n d_Mo_purge_14 rfl ?_
  refine g_if_lt (tgt := 45) d_Mo_purge_15 (by decide) (fun _ => ?_) (fun h1 => False.elim (by omega))
  refine g_iload_n d_Mo_purge_45 rfl ?_
  refine g_iret d_Mo_purge_46 rfl ?_ (by decide) (by decide)
  exact ⟨rfl, fun q e0 => ((hu_ne (by omega)).trans rfl), rfl, (hu_same _ _ _)⟩
def k_Mo_read0 : MS := ("VaryStoreModel", b_Mo_read, 6, (some (.object "VaryStoreModel$Text")), "read", { frames := 2, cells := 5, slots := 305, locals := 33 }, [])
set_option maxRecDepth 100000 in
set_option maxHeartbeats 4000000 in
theorem c_Mo_read0 (Γ : GE) (r : Nat) (fa : Int) (tm : Int) (th : Int) (ev : Int64) (rq : Nat) {M : HM} {n : Nat} (hrn : r + 8 ≤ n) (p0 : M (r) = some (.inr (6, [.ref (r + 1), .int (iI (0)), .int (iI (fa)), .int (iI (tm)), .int (iI (th)), .long (ev), .ref (rq), .ref (r + 7), .int (iI (0))]))) : CT Γ k_Mo_read0 y_Mo_read [.ref (r)] M (n) (fun v M' n' => n + 5 = n' ∧ (∀ q, q ≠ r → q ≠ n → q ≠ n + 1 → q ≠ n + 2 → q ≠ n + 3 → q ≠ n + 4 → M' q = M q) ∧ v = some (.ref (n)) ∧ M' (r) = some (.inr (6, [.ref (r + 1), .int (iI (0)), .int (iI ((-1))), .int (iI (tm)), .int (iI (th)), .long (ev), .ref (rq), .ref (r + 7), .int (iI (0))])) ∧ M' (n) = some (.inr (7, [.ref (n + 4), .int (iI (0)), .ref (n + 1), .ref (n + 2), .ref (n + 3)])) ∧ M' (n + 1) = some (.inl (Γ.2.2.1 1, 100, .inl (fun _ => iI 0))) ∧ M' (n + 2) = some (.inl (Γ.2.2.1 1, 100, .inl (fun _ => iI 0))) ∧ M' (n + 3) = some (.inl (Γ.2.2.1 1, 100, .inl (fun _ => iI 0))) ∧ M' (n + 4) = some (.inl (Γ.2.2.1 1, 0, .inl (fun _ => iI 0)))) := by
  refine CT.of (by decide) rfl rfl 5 rfl (Nat.le_of_ble_eq_true rfl) rfl ?_
  refine g_aload_n d_Mo_read_0 rfl ?_
  refine g_get fa_Mo_35 d_Mo_read_1 p0 rfl ?_
  refine g_istore_n d_Mo_read_4 (by decide) rfl ?_
  refine g_aload_n d_Mo_read_5 rfl ?_
  refine g_iconst d_Mo_read_6 ?_
  refine g_put fa_Mo_35 d_Mo_read_7 p0 (Nat.le_of_ble_eq_true rfl) rfl rfl rfl ?_
  refine g_aload_n d_Mo_read_10 rfl ?_
  refine g_iconst d_Mo_read_11 ?_
  refine g_put fa_Mo_13 d_Mo_read_12 (hu_same _ _ _) (Nat.le_of_ble_eq_true rfl) rfl rfl rfl ?_
  refine g_new (ci := 7) t_MT [.null, .int (iI (0)), .null, .null, .null] rfl uw_MT to_MT (fun j hj => by rcases (show j = 0 ∨ j = 1 ∨ j = 2 ∨ j = 3 ∨ j = 4 by omega) with rfl | rfl | rfl | rfl | rfl <;> rfl) d_Mo_read_15 w_707 w_708 w_36 (by decide) (by decide) ?_
  refine g_dup d_Mo_read_18 rfl ?_
  refine g_iload_n d_Mo_read_19 rfl ?_
  refine g_callI1 (ν := k_MT_init) ⟨w_709, w_36, w_711, by decide, by decide, by decide +kernel⟩ w_710 rfl rfl (c_MT_init Γ (n)  (hu_same _ _ _)) d_Mo_read_20 ⟨⟨by decide, by decide⟩, ⟨by decide, by decide⟩⟩ (Nat.le_of_ble_eq_true rfl) (fun v1 M1 n1 hQ1 hn1 hd1 => ?_)
  obtain ⟨rfl, hf1, rfl, hw1_0, hw1_1, hw1_2, hw1_3, hw1_4⟩ := hQ1
  refine g_astore_n d_Mo_read_23 (by decide) rfl ?_
  refine g_iconst d_Mo_read_24 ?_
  refine g_istore_n d_Mo_read_25 (by decide) rfl ?_
  refine g_iload_n d_Mo_read_26 rfl ?_
  refine g_iload_n d_Mo_read_27 rfl ?_
  refine g_icmp_ge (tgt := 49) d_Mo_read_28 (by decide) (fun _ => ?_) (fun h2 => False.elim (by omega))
  refine g_iconst d_Mo_read_49 ?_
  refine g_istore_n d_Mo_read_50 (by decide) rfl ?_
  refine g_iload_n d_Mo_read_51 rfl ?_
  refine g_iload_n d_Mo_read_52 rfl ?_
  refine g_icmp_ge (tgt := 194) d_Mo_read_53 (by decide) (fun _ => ?_) (fun h3 => False.elim (by omega))
  refine g_aload_n d_Mo_read_194 rfl ?_
  refine g_aret (rt := (.object "VaryStoreModel$Text")) (by first | exact Or.inl ⟨_, rfl⟩ | exact Or.inr ⟨_, rfl⟩) (by first | exact Or.inl rfl | exact Or.inr ⟨_, rfl⟩) d_Mo_read_195 rfl ?_ (by decide) (by decide)
  exact ⟨rfl, fun q e0 e1 e2 e3 e4 e5 => ((hf1 q (by omega) (by omega) (by omega) (by omega) (by omega)).trans ((hu_ne (by omega)).trans ((hu_ne (by omega)).trans ((hu_ne (by omega)).trans rfl)))), rfl, ((hf1 (r) (by omega) (by omega) (by omega) (by omega) (by omega)).trans ((hu_ne (by omega)).trans (hu_same _ _ _))), hw1_1, hw1_0, hw1_2, hw1_3, hw1_4⟩
def k_Mo_valueOf0 : MS := ("VaryStoreModel", b_Mo_valueOf, 7, (some (.array .int)), "valueOf", { frames := 0, cells := 0, slots := 0, locals := 0 }, [])
set_option maxRecDepth 100000 in
set_option maxHeartbeats 4000000 in
theorem c_Mo_valueOf0 (Γ : GE) (t : Nat) (m : Nat) (x0 : Nat) (x1 : Nat) (x2 : Nat) (x3 : Nat) {M : HM} {n : Nat}  (p0 : M (t) = some (.inr (7, [.ref (x0), .int (iI (0)), .ref (x1), .ref (x2), .ref (x3)]))) : CT Γ k_Mo_valueOf0 y_Mo_valueOf [.ref (t), .ref (m)] M (n) (fun v M' n' => n = n' ∧ (∀ q, M' q = M q) ∧ v = some (.null)) := by
  refine CT.of (by decide) rfl rfl 5 rfl (Nat.le_of_ble_eq_true rfl) rfl ?_
  refine g_null d_Mo_valueOf_0 ?_
  refine g_astore_nN d_Mo_valueOf_1 (by decide) rfl ?_
  refine g_iconst d_Mo_valueOf_2 ?_
  refine g_istore_n d_Mo_valueOf_3 (by decide) rfl ?_
  refine g_iload_n d_Mo_valueOf_4 rfl ?_
  refine g_aload_n d_Mo_valueOf_5 rfl ?_
  refine g_get fa_Mo_57 d_Mo_valueOf_6 p0 rfl ?_
  refine g_icmp_ge (tgt := 143) d_Mo_valueOf_9 (by decide) (fun _ => ?_) (fun h1 => False.elim (by omega))
  refine g_aload_nN d_Mo_valueOf_143 rfl ?_
  refine g_aret (rt := (.array .int)) (by first | exact Or.inl ⟨_, rfl⟩ | exact Or.inr ⟨_, rfl⟩) (by first | exact Or.inl rfl | exact Or.inr ⟨_, rfl⟩) d_Mo_valueOf_144 rfl ?_ (by decide) (by decide)
  exact ⟨rfl, fun q  => rfl, rfl⟩
def k_Mo_cacheControl : MS := ("VaryStoreModel", b_Mo_cacheControl, 0, (some (.array .int)), "cacheControl", { frames := 1, cells := 1, slots := 16, locals := 27 }, [])
set_option maxRecDepth 100000 in
set_option maxHeartbeats 4000000 in
theorem c_Mo_cacheControl (Γ : GE)  {M : HM} {n : Nat}   : CT Γ k_Mo_cacheControl y_Mo_cacheControl [] M (n) (fun v M' n' => n + 1 = n' ∧ (∀ q, q ≠ n → M' q = M q) ∧ ∃ (kn1x0 : Nat) (fn1x1 : Nat → Int32), v = some (.ref (n)) ∧ kn1x0 ≤ 16 ∧ M' (n) = some (.inl (Γ.2.2.1 1, kn1x0, .inl (fn1x1)))) := by
  refine CT.of (by decide) rfl rfl 0 rfl (Nat.le_of_ble_eq_true rfl) rfl ?_
  refine g_ldcL w_795 d_Mo_cacheControl_0 ?_
  refine g_ldcL w_796 d_Mo_cacheControl_3 ?_
  refine g_callS2 (ν := k_Mo_name) ⟨w_797, w_35, w_799, by decide, by decide, by decide +kernel⟩ w_798 (c_Mo_name Γ (7161114182521021295) (474400059244)  ) d_Mo_cacheControl_6 ⟨⟨by decide, by decide⟩, ⟨by decide, by decide⟩⟩ (Nat.le_of_ble_eq_true rfl) (fun v1 M1 n1 hQ1 hn1 hd1 => ?_)
  obtain ⟨rfl, hf1, kn1x0, fn1x1, rfl, hb1_kn1x0_0, hw1_0⟩ := hQ1
  refine g_aret (rt := (.array .int)) (by first | exact Or.inl ⟨_, rfl⟩ | exact Or.inr ⟨_, rfl⟩) (by first | exact Or.inl rfl | exact Or.inr ⟨_, rfl⟩) d_Mo_cacheControl_9 rfl ?_ (by decide) (by decide)
  exact ⟨rfl, fun q e0 => ((hf1 q (by omega)).trans rfl), kn1x0, fn1x1, rfl, hb1_kn1x0_0, hw1_0⟩
def k_Mo_word0 : MS := ("VaryStoreModel", b_Mo_word, 9, (some .int), "word", { frames := 0, cells := 0, slots := 0, locals := 0 }, [])
set_option maxRecDepth 100000 in
set_option maxHeartbeats 4000000 in
theorem c_Mo_word0 (Γ : GE) (m : Nat) {M : HM} {n : Nat}   : CT Γ k_Mo_word0 y_Mo_word [.null, .ref (m)] M (n) (fun v M' n' => n = n' ∧ (∀ q, M' q = M q) ∧ v = some (.int (iI ((-2))))) := by
  refine CT.of (by decide) rfl rfl 7 rfl (Nat.le_of_ble_eq_true rfl) rfl ?_
  refine g_bipush d_Mo_word_0 (by decide) ?_
  refine g_istore_n d_Mo_word_2 (by decide) rfl ?_
  refine g_aload_nN d_Mo_word_3 rfl ?_
  refine g_ifnonnullN d_Mo_word_4 ?_
  refine g_iload_n d_Mo_word_7 rfl ?_
  refine g_iret d_Mo_word_8 rfl ?_ (by decide) (by decide)
  exact ⟨rfl, fun q  => rfl, rfl⟩
def k_Mo_has0 : MS := ("VaryStoreModel", b_Mo_has, 5, (some .boolean), "has", { frames := 1, cells := 1, slots := 16, locals := 28 }, [])
set_option maxRecDepth 100000 in
set_option maxHeartbeats 4000000 in
theorem c_Mo_has0 (Γ : GE) (w1 : Int64) (w2 : Int64) {M : HM} {n : Nat}   : CT Γ k_Mo_has0 y_Mo_has [.null, .long (w1), .long (w2)] M (n) (fun v M' n' => n + 1 = n' ∧ (∀ q, q ≠ n → M' q = M q) ∧ v = some (.int (iI (0)))) := by
  refine CT.of (by decide) rfl rfl 0 rfl (Nat.le_of_ble_eq_true rfl) rfl ?_
  refine g_aload_nN d_Mo_has_0 rfl ?_
  refine g_lload_n d_Mo_has_1 rfl ?_
  refine g_lload_n d_Mo_has_2 rfl ?_
  refine g_callS2 (ν := k_Mo_name) ⟨w_797, w_35, w_799, by decide, by decide, by decide +kernel⟩ w_798 (c_Mo_name Γ (w1) (w2)  ) d_Mo_has_3 ⟨⟨by decide, by decide⟩, ⟨by decide, by decide⟩⟩ (Nat.le_of_ble_eq_true rfl) (fun v1 M1 n1 hQ1 hn1 hd1 => ?_)
  obtain ⟨rfl, hf1, kn1x0, fn1x1, rfl, hb1_kn1x0_0, hw1_0⟩ := hQ1
  refine g_callS2 (ν := k_Mo_word0) ⟨w_838, w_35, w_840, by decide, by decide, by decide +kernel⟩ w_839 (c_Mo_word0 Γ (n)  ) d_Mo_has_6 ⟨⟨by decide, by decide⟩, ⟨by decide, by decide⟩⟩ (Nat.le_of_ble_eq_true rfl) (fun v2 M2 n2 hQ2 hn2 hd2 => ?_)
  obtain ⟨rfl, hf2, rfl⟩ := hQ2
  refine g_bipush d_Mo_has_9 (by decide) ?_
  refine g_icmp_eq (tgt := 18) d_Mo_has_11 (by decide) (fun _ => ?_) (fun h3 => False.elim (by omega))
  refine g_iconst d_Mo_has_18 ?_
  refine g_zret (ty := .boolean) (by first | rfl | decide) d_Mo_has_19 rfl ?_ (by decide) (by decide)
  exact ⟨rfl, fun q e0 => ((hf2 q ).trans ((hf1 q (by omega)).trans rfl)), rfl⟩
def k_Mo_numberIn0 : MS := ("VaryStoreModel", b_Mo_numberIn, 3, (some .int), "numberIn", { frames := 1, cells := 0, slots := 0, locals := 26 }, [])
set_option maxRecDepth 100000 in
set_option maxHeartbeats 4000000 in
theorem c_Mo_numberIn0 (Γ : GE) (t : Nat) (m : Nat) (x0 : Nat) (x1 : Nat) (x2 : Nat) (x3 : Nat) {M : HM} {n : Nat}  (p0 : M (t) = some (.inr (7, [.ref (x0), .int (iI (0)), .ref (x1), .ref (x2), .ref (x3)]))) : CT Γ k_Mo_numberIn0 y_Mo_numberIn [.ref (t), .ref (m)] M (n) (fun v M' n' => n = n' ∧ (∀ q, M' q = M q) ∧ v = some (.int (iI ((-1))))) := by
  refine CT.of (by decide) rfl rfl 1 rfl (Nat.le_of_ble_eq_true rfl) rfl ?_
  refine g_aload_n d_Mo_numberIn_0 rfl ?_
  refine g_aload_n d_Mo_numberIn_1 rfl ?_
  refine g_callS2 (ν := k_Mo_valueOf0) ⟨w_800, w_35, w_802, by decide, by decide, by decide +kernel⟩ w_801 (c_Mo_valueOf0 Γ (t) (m) (x0) (x1) (x2) (x3)  p0) d_Mo_numberIn_2 ⟨⟨by decide, by decide⟩, ⟨by decide, by decide⟩⟩ (Nat.le_of_ble_eq_true rfl) (fun v1 M1 n1 hQ1 hn1 hd1 => ?_)
  obtain ⟨rfl, hf1, rfl⟩ := hQ1
  refine g_astore_nN d_Mo_numberIn_5 (by decide) rfl ?_
  refine g_aload_nN d_Mo_numberIn_6 rfl ?_
  refine g_ifnonnullN d_Mo_numberIn_7 ?_
  refine g_iconst d_Mo_numberIn_10 ?_
  refine g_goto (tgt := 19) d_Mo_numberIn_11 (by decide) ?_
  refine g_iret d_Mo_numberIn_19 rfl ?_ (by decide) (by decide)
  exact ⟨rfl, fun q  => ((hf1 q ).trans rfl), rfl⟩
def k_Mo_etagOf0 : MS := ("VaryStoreModel", b_Mo_etagOf, 2, (some (.array .int)), "etagOf", { frames := 1, cells := 1, slots := 16, locals := 27 }, [])
set_option maxRecDepth 100000 in
set_option maxHeartbeats 4000000 in
theorem c_Mo_etagOf0 (Γ : GE) (t : Nat) (x0 : Nat) (x1 : Nat) (x2 : Nat) (x3 : Nat) {M : HM} {n : Nat} (htn : t < n) (p0 : M (t) = some (.inr (7, [.ref (x0), .int (iI (0)), .ref (x1), .ref (x2), .ref (x3)]))) : CT Γ k_Mo_etagOf0 y_Mo_etagOf [.ref (t)] M (n) (fun v M' n' => n + 1 = n' ∧ (∀ q, q ≠ n → M' q = M q) ∧ v = some (.null)) := by
  refine CT.of (by decide) rfl rfl 1 rfl (Nat.le_of_ble_eq_true rfl) rfl ?_
  refine g_aload_n d_Mo_etagOf_0 rfl ?_
  refine g_ldcL w_918 d_Mo_etagOf_1 ?_
  refine g_lconst d_Mo_etagOf_4 rfl ?_
  refine g_callS2 (ν := k_Mo_name) ⟨w_797, w_35, w_799, by decide, by decide, by decide +kernel⟩ w_798 (c_Mo_name Γ (1702125927) (Int64.ofNat 0)  ) d_Mo_etagOf_5 ⟨⟨by decide, by decide⟩, ⟨by decide, by decide⟩⟩ (Nat.le_of_ble_eq_true rfl) (fun v1 M1 n1 hQ1 hn1 hd1 => ?_)
  obtain ⟨rfl, hf1, kn1x0, fn1x1, rfl, hb1_kn1x0_0, hw1_0⟩ := hQ1
  refine g_callS2 (ν := k_Mo_valueOf0) ⟨w_800, w_35, w_802, by decide, by decide, by decide +kernel⟩ w_801 (c_Mo_valueOf0 Γ (t) (n) (x0) (x1) (x2) (x3)  ((hf1 (t) (by omega)).trans p0)) d_Mo_etagOf_8 ⟨⟨by decide, by decide⟩, ⟨by decide, by decide⟩⟩ (Nat.le_of_ble_eq_true rfl) (fun v2 M2 n2 hQ2 hn2 hd2 => ?_)
  obtain ⟨rfl, hf2, rfl⟩ := hQ2
  refine g_astore_nN d_Mo_etagOf_11 (by decide) rfl ?_
  refine g_aload_nN d_Mo_etagOf_12 rfl ?_
  refine g_ifnullN (tgt := 21) d_Mo_etagOf_13 (by decide) ?_
  refine g_null d_Mo_etagOf_21 ?_
  refine g_goto (tgt := 26) d_Mo_etagOf_22 (by decide) ?_
  refine g_aret (rt := (.array .int)) (by first | exact Or.inl ⟨_, rfl⟩ | exact Or.inr ⟨_, rfl⟩) (by first | exact Or.inl rfl | exact Or.inr ⟨_, rfl⟩) d_Mo_etagOf_26 rfl ?_ (by decide) (by decide)
  exact ⟨rfl, fun q e0 => ((hf2 q ).trans ((hf1 q (by omega)).trans rfl)), rfl⟩
def k_Mo_theOne0 : MS := ("VaryStoreModel", b_Mo_theOne, 7, (some .int), "theOne", { frames := 0, cells := 0, slots := 0, locals := 0 }, [])
set_option maxRecDepth 100000 in
set_option maxHeartbeats 4000000 in
theorem c_Mo_theOne0 (Γ : GE) (r : Nat) (fa : Int) (tm : Int) (th : Int) (ev : Int64) (rq : Nat) (path : Int) {M : HM} {n : Nat}  (p0 : M (r) = some (.inr (6, [.ref (r + 1), .int (iI (0)), .int (iI (fa)), .int (iI (tm)), .int (iI (th)), .long (ev), .ref (rq), .ref (r + 7), .int (iI (0))]))) : CT Γ k_Mo_theOne0 y_Mo_theOne [.ref (r), .int (iI (path))] M (n) (fun v M' n' => n = n' ∧ (∀ q, M' q = M q) ∧ v = some (.int (iI ((-1))))) := by
  refine CT.of (by decide) rfl rfl 5 rfl (Nat.le_of_ble_eq_true rfl) rfl ?_
  refine g_iconst d_Mo_theOne_0 ?_
  refine g_istore_n d_Mo_theOne_1 (by decide) rfl ?_
  refine g_iconst d_Mo_theOne_2 ?_
  refine g_istore_n d_Mo_theOne_3 (by decide) rfl ?_
  refine g_iload_n d_Mo_theOne_4 rfl ?_
  refine g_aload_n d_Mo_theOne_5 rfl ?_
  refine g_get fa_Mo_181 d_Mo_theOne_6 p0 rfl ?_
  refine g_icmp_ge (tgt := 102) d_Mo_theOne_9 (by decide) (fun _ => ?_) (fun h1 => False.elim (by omega))
  refine g_iload_n d_Mo_theOne_102 rfl ?_
  refine g_iret d_Mo_theOne_103 rfl ?_ (by decide) (by decide)
  exact ⟨rfl, fun q  => rfl, rfl⟩
def k_Mo_placeOf0 : MS := ("VaryStoreModel", b_Mo_placeOf, 6, (some .int), "placeOf", { frames := 0, cells := 0, slots := 0, locals := 0 }, [])
set_option maxRecDepth 100000 in
set_option maxHeartbeats 4000000 in
theorem c_Mo_placeOf0 (Γ : GE) (r : Nat) (fa : Int) (tm : Int) (th : Int) (ev : Int64) (rq : Nat) (g : Nat) {M : HM} {n : Nat}  (p0 : M (r) = some (.inr (6, [.ref (r + 1), .int (iI (0)), .int (iI (fa)), .int (iI (tm)), .int (iI (th)), .long (ev), .ref (rq), .ref (r + 7), .int (iI (0))]))) : CT Γ k_Mo_placeOf0 y_Mo_placeOf [.ref (r), .ref (g)] M (n) (fun v M' n' => n = n' ∧ (∀ q, M' q = M q) ∧ v = some (.int (iI ((-1))))) := by
  refine CT.of (by decide) rfl rfl 4 rfl (Nat.le_of_ble_eq_true rfl) rfl ?_
  refine g_iconst d_Mo_placeOf_0 ?_
  refine g_istore_n d_Mo_placeOf_1 (by decide) rfl ?_
  refine g_iload_n d_Mo_placeOf_2 rfl ?_
  refine g_aload_n d_Mo_placeOf_3 rfl ?_
  refine g_get fa_Mo_181 d_Mo_placeOf_4 p0 rfl ?_
  refine g_icmp_ge (tgt := 105) d_Mo_placeOf_7 (by decide) (fun _ => ?_) (fun h1 => False.elim (by omega))
  refine g_iconst d_Mo_placeOf_105 ?_
  refine g_iret d_Mo_placeOf_106 rfl ?_ (by decide) (by decide)
  exact ⟨rfl, fun q  => rfl, rfl⟩
def k_Mo_hasStar0 : MS := ("VaryStoreModel", b_Mo_hasStar, 2, (some .boolean), "hasStar", { frames := 0, cells := 0, slots := 0, locals := 0 }, [])
set_option maxRecDepth 100000 in
set_option maxHeartbeats 4000000 in
theorem c_Mo_hasStar0 (Γ : GE) (a : Nat) {M : HM} {n : Nat}  (p0 : M (a) = some (.inl (Γ.2.2.1 5, 0, .inr (.inr (.inr (.inr (fun _ => none))))))) : CT Γ k_Mo_hasStar0 y_Mo_hasStar [.ref (a)] M (n) (fun v M' n' => n = n' ∧ (∀ q, M' q = M q) ∧ v = some (.int (iI (0)))) := by
  refine CT.of (by decide) rfl rfl 1 rfl (Nat.le_of_ble_eq_true rfl) rfl ?_
  refine g_iconst d_Mo_hasStar_0 ?_
  refine g_istore_n d_Mo_hasStar_1 (by decide) rfl ?_
  refine g_iload_n d_Mo_hasStar_2 rfl ?_
  refine g_aload_n d_Mo_hasStar_3 rfl ?_
  refine g_alenN 5 rfl d_Mo_hasStar_4 p0 ?_
  refine g_icmp_ge (tgt := 34) d_Mo_hasStar_5 (by decide) (fun _ => ?_) (fun h1 => False.elim (by omega))
  refine g_iconst d_Mo_hasStar_34 ?_
  refine g_zret (ty := .boolean) (by first | rfl | decide) d_Mo_hasStar_35 rfl ?_ (by decide) (by decide)
  exact ⟨rfl, fun q  => rfl, rfl⟩
def k_Mo_isPath1 : MS := ("VaryStoreModel", b_Mo_isPath, 1, (some .boolean), "isPath", { frames := 0, cells := 0, slots := 0, locals := 0 }, [])
set_option maxRecDepth 100000 in
set_option maxHeartbeats 4000000 in
theorem c_Mo_isPath1 (Γ : GE) (path : Int) {M : HM} {n : Nat} (pa : 0 ≤ path) (pb : path < 16)  : CT Γ k_Mo_isPath1 y_Mo_isPath [.int (iI (path))] M (n) (fun v M' n' => n = n' ∧ (∀ q, M' q = M q) ∧ v = some (.int (iI (1)))) := by
  refine CT.of (by decide) rfl rfl 0 rfl (Nat.le_of_ble_eq_true rfl) rfl ?_
  refine g_iload_n d_Mo_isPath_0 rfl ?_
  refine g_if_lt (tgt := 14) d_Mo_isPath_1 (by decide) (fun h1 => False.elim (by omega)) (fun h1 => ?_)
  refine g_iload_n d_Mo_isPath_4 rfl ?_
  refine g_bipush d_Mo_isPath_5 (by decide) ?_
  refine g_icmp_ge (tgt := 14) d_Mo_isPath_7 (by decide) (fun h2 => False.elim (by omega)) (fun h2 => ?_)
  refine g_iconst d_Mo_isPath_10 ?_
  refine g_goto (tgt := 15) d_Mo_isPath_11 (by decide) ?_
  refine g_zret (ty := .boolean) (by first | rfl | decide) d_Mo_isPath_15 rfl ?_ (by decide) (by decide)
  exact ⟨rfl, fun q  => rfl, rfl⟩
def k_Mo_isPath0 : MS := ("VaryStoreModel", b_Mo_isPath, 1, (some .boolean), "isPath", { frames := 0, cells := 0, slots := 0, locals := 0 }, [])
set_option maxRecDepth 100000 in
set_option maxHeartbeats 4000000 in
theorem c_Mo_isPath0 (Γ : GE) (path : Int) {M : HM} {n : Nat} (pa : -2147483648 ≤ path) (pb : path < 2147483648) (pc9 : ¬ (0 ≤ path ∧ path < 16))  : CT Γ k_Mo_isPath0 y_Mo_isPath [.int (iI (path))] M (n) (fun v M' n' => n = n' ∧ (∀ q, M' q = M q) ∧ v = some (.int (iI (0)))) := by
  refine CT.of (by decide) rfl rfl 0 rfl (Nat.le_of_ble_eq_true rfl) rfl ?_
  refine g_iload_n d_Mo_isPath_0 rfl ?_
  refine g_if_lt (tgt := 14) d_Mo_isPath_1 (by decide) (fun h1 => ?_) (fun h1 => ?_)
  · skip
    refine g_iconst d_Mo_isPath_14 ?_
    refine g_zret (ty := .boolean) (by first | rfl | decide) d_Mo_isPath_15 rfl ?_ (by decide) (by decide)
    exact ⟨rfl, fun q  => rfl, rfl⟩
  · skip
    refine g_iload_n d_Mo_isPath_4 rfl ?_
    refine g_bipush d_Mo_isPath_5 (by decide) ?_
    refine g_icmp_ge (tgt := 14) d_Mo_isPath_7 (by decide) (fun h2 => ?_) (fun h2 => False.elim (by omega))
    refine g_iconst d_Mo_isPath_14 ?_
    refine g_zret (ty := .boolean) (by first | rfl | decide) d_Mo_isPath_15 rfl ?_ (by decide) (by decide)
    exact ⟨rfl, fun q  => rfl, rfl⟩
