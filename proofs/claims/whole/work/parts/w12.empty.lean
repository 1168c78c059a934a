theorem d_Ro_skipBlanks_0 : decode b_Ro_skipBlanks 0 = .ok (.iload_n 1, 1) := by decide +kernel
theorem d_Ro_skipBlanks_1 : decode b_Ro_skipBlanks 1 = .ok (.istore_n 3, 1) := by decide +kernel
theorem d_Ro_skipBlanks_2 : decode b_Ro_skipBlanks 2 = .ok (.iload_n 3, 1) := by decide +kernel
theorem d_Ro_skipBlanks_3 : decode b_Ro_skipBlanks 3 = .ok (.iload_n 2, 1) := by decide +kernel
theorem d_Ro_skipBlanks_4 : decode b_Ro_skipBlanks 4 = .ok (.if_icmp .ge 19, 3) := by decide +kernel
theorem d_Ro_skipBlanks_23 : decode b_Ro_skipBlanks 23 = .ok (.iload_n 3, 1) := by decide +kernel
theorem d_Ro_skipBlanks_24 : decode b_Ro_skipBlanks 24 = .ok (.ireturn, 1) := by decide +kernel
theorem d_Ro_skipBlanksBack_0 : decode b_Ro_skipBlanksBack 0 = .ok (.iload_n 2, 1) := by decide +kernel
theorem d_Ro_skipBlanksBack_1 : decode b_Ro_skipBlanksBack 1 = .ok (.istore_n 3, 1) := by decide +kernel
theorem d_Ro_skipBlanksBack_2 : decode b_Ro_skipBlanksBack 2 = .ok (.iload_n 3, 1) := by decide +kernel
theorem d_Ro_skipBlanksBack_3 : decode b_Ro_skipBlanksBack 3 = .ok (.iload_n 1, 1) := by decide +kernel
theorem d_Ro_skipBlanksBack_4 : decode b_Ro_skipBlanksBack 4 = .ok (.if_icmp .le 21, 3) := by decide +kernel
theorem d_Ro_skipBlanksBack_25 : decode b_Ro_skipBlanksBack 25 = .ok (.iload_n 3, 1) := by decide +kernel
theorem d_Ro_skipBlanksBack_26 : decode b_Ro_skipBlanksBack 26 = .ok (.ireturn, 1) := by decide +kernel
theorem d_Te_gather_0 : decode b_Te_gather 0 = .ok (.iconst 0, 1) := by decide +kernel
theorem d_Te_gather_1 : decode b_Te_gather 1 = .ok (.istore_n 3, 1) := by decide +kernel
theorem d_Te_gather_2 : decode b_Te_gather 2 = .ok (.aload_n 2, 1) := by decide +kernel
theorem d_Te_gather_3 : decode b_Te_gather 3 = .ok (.invokevirtual 67, 3) := by decide +kernel
theorem d_Te_gather_6 : decode b_Te_gather 6 = .ok (.iconst 0, 1) := by decide +kernel
theorem d_Te_gather_7 : decode b_Te_gather 7 = .ok (.istore 4, 2) := by decide +kernel
theorem d_Te_gather_9 : decode b_Te_gather 9 = .ok (.iload 4, 2) := by decide +kernel
theorem d_Te_gather_11 : decode b_Te_gather 11 = .ok (.aload_n 0, 1) := by decide +kernel
theorem d_Te_gather_12 : decode b_Te_gather 12 = .ok (.getfield 28, 3) := by decide +kernel
theorem d_Te_gather_15 : decode b_Te_gather 15 = .ok (.if_icmp .ge 119, 3) := by decide +kernel
theorem d_Te_gather_134 : decode b_Te_gather 134 = .ok (.iload_n 3, 1) := by decide +kernel
theorem d_Te_gather_135 : decode b_Te_gather 135 = .ok (.ireturn, 1) := by decide +kernel
theorem d_It_addItem_0 : decode b_It_addItem 0 = .ok (.aload_n 1, 1) := by decide +kernel
theorem d_It_addItem_1 : decode b_It_addItem 1 = .ok (.iload_n 2, 1) := by decide +kernel
theorem d_It_addItem_2 : decode b_It_addItem 2 = .ok (.iload_n 3, 1) := by decide +kernel
theorem d_It_addItem_3 : decode b_It_addItem 3 = .ok (.invokevirtual 40, 3) := by decide +kernel
theorem d_It_addItem_6 : decode b_It_addItem 6 = .ok (.istore 4, 2) := by decide +kernel
theorem d_It_addItem_8 : decode b_It_addItem 8 = .ok (.aload_n 1, 1) := by decide +kernel
theorem d_It_addItem_9 : decode b_It_addItem 9 = .ok (.iload 4, 2) := by decide +kernel
theorem d_It_addItem_11 : decode b_It_addItem 11 = .ok (.iload_n 3, 1) := by decide +kernel
theorem d_It_addItem_12 : decode b_It_addItem 12 = .ok (.invokevirtual 44, 3) := by decide +kernel
theorem d_It_addItem_15 : decode b_It_addItem 15 = .ok (.istore 5, 2) := by decide +kernel
theorem d_It_addItem_17 : decode b_It_addItem 17 = .ok (.iload 4, 2) := by decide +kernel
theorem d_It_addItem_19 : decode b_It_addItem 19 = .ok (.iload 5, 2) := by decide +kernel
theorem d_It_addItem_21 : decode b_It_addItem 21 = .ok (.if_icmp .ge 15, 3) := by decide +kernel
theorem d_It_addItem_36 : decode b_It_addItem 36 = .ok (.return_, 1) := by decide +kernel
theorem d_It_cut_0 : decode b_It_cut 0 = .ok (.aload_n 0, 1) := by decide +kernel
theorem d_It_cut_1 : decode b_It_cut 1 = .ok (.getfield 12, 3) := by decide +kernel
theorem d_It_cut_4 : decode b_It_cut 4 = .ok (.invokevirtual 26, 3) := by decide +kernel
theorem d_It_cut_7 : decode b_It_cut 7 = .ok (.aload_n 0, 1) := by decide +kernel
theorem d_It_cut_8 : decode b_It_cut 8 = .ok (.iconst 0, 1) := by decide +kernel
theorem d_It_cut_9 : decode b_It_cut 9 = .ok (.putfield 22, 3) := by decide +kernel
theorem d_It_cut_12 : decode b_It_cut 12 = .ok (.iconst 0, 1) := by decide +kernel
theorem d_It_cut_13 : decode b_It_cut 13 = .ok (.istore_n 2, 1) := by decide +kernel
theorem d_It_cut_14 : decode b_It_cut 14 = .ok (.iconst 0, 1) := by decide +kernel
theorem d_It_cut_15 : decode b_It_cut 15 = .ok (.istore_n 3, 1) := by decide +kernel
theorem d_It_cut_16 : decode b_It_cut 16 = .ok (.iload_n 3, 1) := by decide +kernel
theorem d_It_cut_17 : decode b_It_cut 17 = .ok (.aload_n 1, 1) := by decide +kernel
theorem d_It_cut_18 : decode b_It_cut 18 = .ok (.getfield 29, 3) := by decide +kernel
theorem d_It_cut_21 : decode b_It_cut 21 = .ok (.if_icmp .gt 38, 3) := by decide +kernel
theorem d_It_cut_24 : decode b_It_cut 24 = .ok (.iload_n 3, 1) := by decide +kernel
theorem d_It_cut_25 : decode b_It_cut 25 = .ok (.aload_n 1, 1) := by decide +kernel
theorem d_It_cut_26 : decode b_It_cut 26 = .ok (.getfield 29, 3) := by decide +kernel
theorem d_It_cut_29 : decode b_It_cut 29 = .ok (.if_icmp .eq 13, 3) := by decide +kernel
theorem d_It_cut_42 : decode b_It_cut 42 = .ok (.aload_n 0, 1) := by decide +kernel
theorem d_It_cut_43 : decode b_It_cut 43 = .ok (.aload_n 1, 1) := by decide +kernel
theorem d_It_cut_44 : decode b_It_cut 44 = .ok (.iload_n 2, 1) := by decide +kernel
theorem d_It_cut_45 : decode b_It_cut 45 = .ok (.iload_n 3, 1) := by decide +kernel
theorem d_It_cut_46 : decode b_It_cut 46 = .ok (.invokevirtual 36, 3) := by decide +kernel
theorem d_It_cut_49 : decode b_It_cut 49 = .ok (.iload_n 3, 1) := by decide +kernel
theorem d_It_cut_50 : decode b_It_cut 50 = .ok (.iconst 1, 1) := by decide +kernel
theorem d_It_cut_51 : decode b_It_cut 51 = .ok (.iadd, 1) := by decide +kernel
theorem d_It_cut_52 : decode b_It_cut 52 = .ok (.istore_n 2, 1) := by decide +kernel
theorem d_It_cut_53 : decode b_It_cut 53 = .ok (.iinc 3 1, 3) := by decide +kernel
theorem d_It_cut_56 : decode b_It_cut 56 = .ok (.goto (-40), 3) := by decide +kernel
theorem d_It_cut_59 : decode b_It_cut 59 = .ok (.return_, 1) := by decide +kernel
theorem d_It_said_0 : decode b_It_said 0 = .ok (.bipush (-2), 2) := by decide +kernel
theorem d_It_said_2 : decode b_It_said 2 = .ok (.istore_n 2, 1) := by decide +kernel
theorem d_It_said_3 : decode b_It_said 3 = .ok (.iconst 0, 1) := by decide +kernel
theorem d_It_said_4 : decode b_It_said 4 = .ok (.istore_n 3, 1) := by decide +kernel
theorem d_It_said_5 : decode b_It_said 5 = .ok (.iload_n 3, 1) := by decide +kernel
theorem d_It_said_6 : decode b_It_said 6 = .ok (.aload_n 0, 1) := by decide +kernel
theorem d_It_said_7 : decode b_It_said 7 = .ok (.getfield 22, 3) := by decide +kernel
theorem d_It_said_10 : decode b_It_said 10 = .ok (.if_icmp .ge 36, 3) := by decide +kernel
theorem d_It_said_46 : decode b_It_said 46 = .ok (.iload_n 2, 1) := by decide +kernel
theorem d_It_said_47 : decode b_It_said 47 = .ok (.ireturn, 1) := by decide +kernel
theorem d_It_has_0 : decode b_It_has 0 = .ok (.aload_n 0, 1) := by decide +kernel
theorem d_It_has_1 : decode b_It_has 1 = .ok (.aload_n 1, 1) := by decide +kernel
theorem d_It_has_2 : decode b_It_has 2 = .ok (.invokevirtual 78, 3) := by decide +kernel
theorem d_It_has_5 : decode b_It_has 5 = .ok (.bipush (-2), 2) := by decide +kernel
theorem d_It_has_7 : decode b_It_has 7 = .ok (.if_icmp .eq 7, 3) := by decide +kernel
theorem d_It_has_14 : decode b_It_has 14 = .ok (.iconst 0, 1) := by decide +kernel
theorem d_It_has_15 : decode b_It_has 15 = .ok (.ireturn, 1) := by decide +kernel
theorem d_It_holds_0 : decode b_It_holds 0 = .ok (.iconst 0, 1) := by decide +kernel
theorem d_It_holds_1 : decode b_It_holds 1 = .ok (.istore_n 2, 1) := by decide +kernel
theorem d_It_holds_2 : decode b_It_holds 2 = .ok (.iload_n 2, 1) := by decide +kernel
theorem d_It_holds_3 : decode b_It_holds 3 = .ok (.aload_n 0, 1) := by decide +kernel
theorem d_It_holds_4 : decode b_It_holds 4 = .ok (.getfield 22, 3) := by decide +kernel
theorem d_It_holds_7 : decode b_It_holds 7 = .ok (.if_icmp .ge 40, 3) := by decide +kernel
theorem d_It_holds_47 : decode b_It_holds 47 = .ok (.iconst 0, 1) := by decide +kernel
theorem d_It_holds_48 : decode b_It_holds 48 = .ok (.ireturn, 1) := by decide +kernel
theorem d_Ro_number_0 : decode b_Ro_number 0 = .ok (.iload_n 2, 1) := by decide +kernel
theorem d_Ro_number_1 : decode b_Ro_number 1 = .ok (.iload_n 1, 1) := by decide +kernel
theorem d_Ro_number_2 : decode b_Ro_number 2 = .ok (.isub, 1) := by decide +kernel
theorem d_Ro_number_3 : decode b_Ro_number 3 = .ok (.iconst 1, 1) := by decide +kernel
theorem d_Ro_number_4 : decode b_Ro_number 4 = .ok (.if_icmp .lt 11, 3) := by decide +kernel
theorem d_Ro_number_15 : decode b_Ro_number 15 = .ok (.iconst (-1), 1) := by decide +kernel
theorem d_Ro_number_16 : decode b_Ro_number 16 = .ok (.ireturn, 1) := by decide +kernel
theorem d_VS_gather_0 : decode b_VS_gather 0 = .ok (.aload_n 0, 1) := by decide +kernel
theorem d_VS_gather_1 : decode b_VS_gather 1 = .ok (.getfield 40, 3) := by decide +kernel
theorem d_VS_gather_4 : decode b_VS_gather 4 = .ok (.aload_n 2, 1) := by decide +kernel
theorem d_VS_gather_5 : decode b_VS_gather 5 = .ok (.invokevirtual 212, 3) := by decide +kernel
theorem d_VS_gather_8 : decode b_VS_gather 8 = .ok (.aload_n 1, 1) := by decide +kernel
theorem d_VS_gather_9 : decode b_VS_gather 9 = .ok (.aload_n 0, 1) := by decide +kernel
theorem d_VS_gather_10 : decode b_VS_gather 10 = .ok (.getfield 40, 3) := by decide +kernel
theorem d_VS_gather_13 : decode b_VS_gather 13 = .ok (.aload_n 0, 1) := by decide +kernel
theorem d_VS_gather_14 : decode b_VS_gather 14 = .ok (.getfield 43, 3) := by decide +kernel
theorem d_VS_gather_17 : decode b_VS_gather 17 = .ok (.invokevirtual 215, 3) := by decide +kernel
theorem d_VS_gather_20 : decode b_VS_gather 20 = .ok (.ireturn, 1) := by decide +kernel
theorem d_VS_cutList_0 : decode b_VS_cutList 0 = .ok (.aload_n 0, 1) := by decide +kernel
theorem d_VS_cutList_1 : decode b_VS_cutList 1 = .ok (.aload_n 1, 1) := by decide +kernel
theorem d_VS_cutList_2 : decode b_VS_cutList 2 = .ok (.aload_n 2, 1) := by decide +kernel
theorem d_VS_cutList_3 : decode b_VS_cutList 3 = .ok (.invokevirtual 145, 3) := by decide +kernel
theorem d_VS_cutList_6 : decode b_VS_cutList 6 = .ok (.istore 4, 2) := by decide +kernel
theorem d_VS_cutList_8 : decode b_VS_cutList 8 = .ok (.aload_n 3, 1) := by decide +kernel
theorem d_VS_cutList_9 : decode b_VS_cutList 9 = .ok (.aload_n 0, 1) := by decide +kernel
theorem d_VS_cutList_10 : decode b_VS_cutList 10 = .ok (.getfield 43, 3) := by decide +kernel
theorem d_VS_cutList_13 : decode b_VS_cutList 13 = .ok (.invokevirtual 218, 3) := by decide +kernel
theorem d_VS_cutList_16 : decode b_VS_cutList 16 = .ok (.iload 4, 2) := by decide +kernel
theorem d_VS_cutList_18 : decode b_VS_cutList 18 = .ok (.ireturn, 1) := by decide +kernel
theorem d_VS_numberOf_0 : decode b_VS_numberOf 0 = .ok (.aload_n 0, 1) := by decide +kernel
theorem d_VS_numberOf_1 : decode b_VS_numberOf 1 = .ok (.aload_n 0, 1) := by decide +kernel
theorem d_VS_numberOf_2 : decode b_VS_numberOf 2 = .ok (.getfield 30, 3) := by decide +kernel
theorem d_VS_numberOf_5 : decode b_VS_numberOf 5 = .ok (.aload_n 1, 1) := by decide +kernel
theorem d_VS_numberOf_6 : decode b_VS_numberOf 6 = .ok (.invokevirtual 145, 3) := by decide +kernel
theorem d_VS_numberOf_9 : decode b_VS_numberOf 9 = .ok (.pop, 1) := by decide +kernel
theorem d_VS_numberOf_10 : decode b_VS_numberOf 10 = .ok (.aload_n 0, 1) := by decide +kernel
theorem d_VS_numberOf_11 : decode b_VS_numberOf 11 = .ok (.getfield 43, 3) := by decide +kernel
theorem d_VS_numberOf_14 : decode b_VS_numberOf 14 = .ok (.iconst 0, 1) := by decide +kernel
theorem d_VS_numberOf_15 : decode b_VS_numberOf 15 = .ok (.aload_n 0, 1) := by decide +kernel
theorem d_VS_numberOf_16 : decode b_VS_numberOf 16 = .ok (.getfield 43, 3) := by decide +kernel
theorem d_VS_numberOf_19 : decode b_VS_numberOf 19 = .ok (.getfield 59, 3) := by decide +kernel
theorem d_VS_numberOf_22 : decode b_VS_numberOf 22 = .ok (.invokevirtual 222, 3) := by decide +kernel
theorem d_VS_numberOf_25 : decode b_VS_numberOf 25 = .ok (.ireturn, 1) := by decide +kernel
theorem d_Sh_at_0 : decode b_Sh_at 0 = .ok (.iload_n 1, 1) := by decide +kernel
theorem d_Sh_at_1 : decode b_Sh_at 1 = .ok (.ifCond .lt 20, 3) := by decide +kernel
theorem d_Sh_at_21 : decode b_Sh_at 21 = .ok (.aconst_null, 1) := by decide +kernel
theorem d_Sh_at_22 : decode b_Sh_at 22 = .ok (.areturn, 1) := by decide +kernel
theorem d_Sh_at_4 : decode b_Sh_at 4 = .ok (.iload_n 1, 1) := by decide +kernel
theorem d_Sh_at_5 : decode b_Sh_at 5 = .ok (.aload_n 0, 1) := by decide +kernel
theorem d_Sh_at_6 : decode b_Sh_at 6 = .ok (.getfield 17, 3) := by decide +kernel
theorem d_Sh_at_9 : decode b_Sh_at 9 = .ok (.if_icmp .ge 12, 3) := by decide +kernel
theorem d_VS_placeOfTheOne_0 : decode b_VS_placeOfTheOne 0 = .ok (.aload_n 0, 1) := by decide +kernel
theorem d_VS_placeOfTheOne_1 : decode b_VS_placeOfTheOne 1 = .ok (.getfield 19, 3) := by decide +kernel
theorem d_VS_placeOfTheOne_4 : decode b_VS_placeOfTheOne 4 = .ok (.getfield 133, 3) := by decide +kernel
theorem d_VS_placeOfTheOne_7 : decode b_VS_placeOfTheOne 7 = .ok (.iconst 1, 1) := by decide +kernel
theorem d_VS_placeOfTheOne_8 : decode b_VS_placeOfTheOne 8 = .ok (.isub, 1) := by decide +kernel
theorem d_VS_placeOfTheOne_9 : decode b_VS_placeOfTheOne 9 = .ok (.istore_n 2, 1) := by decide +kernel
theorem d_VS_placeOfTheOne_10 : decode b_VS_placeOfTheOne 10 = .ok (.iload_n 2, 1) := by decide +kernel
theorem d_VS_placeOfTheOne_11 : decode b_VS_placeOfTheOne 11 = .ok (.ifCond .lt 40, 3) := by decide +kernel
theorem d_VS_placeOfTheOne_51 : decode b_VS_placeOfTheOne 51 = .ok (.iconst (-1), 1) := by decide +kernel
theorem d_VS_placeOfTheOne_52 : decode b_VS_placeOfTheOne 52 = .ok (.ireturn, 1) := by decide +kernel
theorem d_VS_placeOfSame_0 : decode b_VS_placeOfSame 0 = .ok (.iconst 0, 1) := by decide +kernel
theorem d_VS_placeOfSame_1 : decode b_VS_placeOfSame 1 = .ok (.istore_n 2, 1) := by decide +kernel
theorem d_VS_placeOfSame_2 : decode b_VS_placeOfSame 2 = .ok (.iload_n 2, 1) := by decide +kernel
theorem d_VS_placeOfSame_3 : decode b_VS_placeOfSame 3 = .ok (.aload_n 0, 1) := by decide +kernel
theorem d_VS_placeOfSame_4 : decode b_VS_placeOfSame 4 = .ok (.getfield 19, 3) := by decide +kernel
theorem d_VS_placeOfSame_7 : decode b_VS_placeOfSame 7 = .ok (.getfield 133, 3) := by decide +kernel
theorem d_VS_placeOfSame_10 : decode b_VS_placeOfSame 10 = .ok (.if_icmp .ge 57, 3) := by decide +kernel
theorem d_VS_placeOfSame_67 : decode b_VS_placeOfSame 67 = .ok (.iconst (-1), 1) := by decide +kernel
theorem d_VS_placeOfSame_68 : decode b_VS_placeOfSame 68 = .ok (.ireturn, 1) := by decide +kernel
theorem d_VS_things_0 : decode b_VS_things 0 = .ok (.aload_n 0, 1) := by decide +kernel
theorem d_VS_things_1 : decode b_VS_things 1 = .ok (.getfield 19, 3) := by decide +kernel
theorem d_VS_things_4 : decode b_VS_things 4 = .ok (.getfield 133, 3) := by decide +kernel
theorem d_VS_things_7 : decode b_VS_things 7 = .ok (.ireturn, 1) := by decide +kernel
theorem d_VS_fault_0 : decode b_VS_fault 0 = .ok (.aload_n 0, 1) := by decide +kernel
theorem d_VS_fault_1 : decode b_VS_fault 1 = .ok (.getfield 33, 3) := by decide +kernel
theorem d_VS_fault_4 : decode b_VS_fault 4 = .ok (.ireturn, 1) := by decide +kernel
theorem d_VS_purge_0 : decode b_VS_purge 0 = .ok (.iconst 0, 1) := by decide +kernel
theorem d_VS_purge_1 : decode b_VS_purge 1 = .ok (.istore_n 2, 1) := by decide +kernel
theorem d_VS_purge_2 : decode b_VS_purge 2 = .ok (.aload_n 0, 1) := by decide +kernel
theorem d_VS_purge_3 : decode b_VS_purge 3 = .ok (.getfield 19, 3) := by decide +kernel
theorem d_VS_purge_6 : decode b_VS_purge 6 = .ok (.getfield 133, 3) := by decide +kernel
theorem d_VS_purge_9 : decode b_VS_purge 9 = .ok (.iconst 1, 1) := by decide +kernel
theorem d_VS_purge_10 : decode b_VS_purge 10 = .ok (.isub, 1) := by decide +kernel
theorem d_VS_purge_11 : decode b_VS_purge 11 = .ok (.istore_n 3, 1) := by decide +kernel
theorem d_VS_purge_12 : decode b_VS_purge 12 = .ok (.iload_n 3, 1) := by decide +kernel
theorem d_VS_purge_13 : decode b_VS_purge 13 = .ok (.ifCond .lt 44, 3) := by decide +kernel
theorem d_VS_purge_57 : decode b_VS_purge 57 = .ok (.iload_n 2, 1) := by decide +kernel
theorem d_VS_purge_58 : decode b_VS_purge 58 = .ok (.ireturn, 1) := by decide +kernel
theorem d_Sh_drop_0 : decode b_Sh_drop 0 = .ok (.iload_n 1, 1) := by decide +kernel
theorem d_Sh_drop_1 : decode b_Sh_drop 1 = .ok (.ifCond .lt 26, 3) := by decide +kernel
theorem d_Sh_drop_27 : decode b_Sh_drop 27 = .ok (.return_, 1) := by decide +kernel
theorem d_Te_read_0 : decode b_Te_read 0 = .ok (.aload_n 0, 1) := by decide +kernel
theorem d_Te_read_1 : decode b_Te_read 1 = .ok (.getfield 12, 3) := by decide +kernel
theorem d_Te_read_4 : decode b_Te_read 4 = .ok (.aload_n 1, 1) := by decide +kernel
theorem d_Te_read_5 : decode b_Te_read 5 = .ok (.invokevirtual 32, 3) := by decide +kernel
theorem d_Te_read_8 : decode b_Te_read 8 = .ok (.aload_n 0, 1) := by decide +kernel
theorem d_Te_read_9 : decode b_Te_read 9 = .ok (.iconst 0, 1) := by decide +kernel
theorem d_Te_read_10 : decode b_Te_read 10 = .ok (.putfield 28, 3) := by decide +kernel
theorem d_Te_read_13 : decode b_Te_read 13 = .ok (.iconst 0, 1) := by decide +kernel
theorem d_Te_read_14 : decode b_Te_read 14 = .ok (.istore_n 2, 1) := by decide +kernel
theorem d_Te_read_15 : decode b_Te_read 15 = .ok (.iconst 0, 1) := by decide +kernel
theorem d_Te_read_16 : decode b_Te_read 16 = .ok (.istore_n 3, 1) := by decide +kernel
theorem d_Te_read_17 : decode b_Te_read 17 = .ok (.iload_n 3, 1) := by decide +kernel
theorem d_Te_read_18 : decode b_Te_read 18 = .ok (.aload_n 0, 1) := by decide +kernel
theorem d_Te_read_19 : decode b_Te_read 19 = .ok (.getfield 12, 3) := by decide +kernel
theorem d_Te_read_22 : decode b_Te_read 22 = .ok (.getfield 48, 3) := by decide +kernel
theorem d_Te_read_25 : decode b_Te_read 25 = .ok (.if_icmp .ge 37, 3) := by decide +kernel
theorem d_Te_read_62 : decode b_Te_read 62 = .ok (.iload_n 2, 1) := by decide +kernel
theorem d_Te_read_63 : decode b_Te_read 63 = .ok (.aload_n 0, 1) := by decide +kernel
theorem d_Te_read_64 : decode b_Te_read 64 = .ok (.getfield 12, 3) := by decide +kernel
theorem d_Te_read_67 : decode b_Te_read 67 = .ok (.getfield 48, 3) := by decide +kernel
theorem d_Te_read_70 : decode b_Te_read 70 = .ok (.if_icmp .ge 7, 3) := by decide +kernel
theorem d_Te_read_77 : decode b_Te_read 77 = .ok (.iconst (-1), 1) := by decide +kernel
theorem d_Te_read_78 : decode b_Te_read 78 = .ok (.ireturn, 1) := by decide +kernel
set_option maxRecDepth 20000 in
theorem w_400 : Cond.methodLink "VaryStore$Text" 67 ⟨"VaryStore$Row", "clear", "()V"⟩ ∈ TB := tb_in 400 (by decide +kernel) (by decide +kernel)
set_option maxRecDepth 20000 in
theorem w_410 : Cond.code ⟨"VaryStore$Row", "skipBlanks", "(II)I"⟩ prog_3_method_11_code 4 (some .int) ∈ TB := tb_in 410 (by decide +kernel) (by decide +kernel)
set_option maxRecDepth 20000 in
theorem w_426 : Cond.methodLink "VaryStore$Items" 40 ⟨"VaryStore$Row", "skipBlanks", "(II)I"⟩ ∈ TB := tb_in 426 (by decide +kernel) (by decide +kernel)
set_option maxRecDepth 20000 in
theorem w_408 : Cond.instanceMethod ⟨"VaryStore$Row", "skipBlanks", "(II)I"⟩ ∈ TB := tb_in 408 (by decide +kernel) (by decide +kernel)
set_option maxRecDepth 20000 in
theorem w_409 : Cond.selects "VaryStore$Row" ⟨"VaryStore$Row", "skipBlanks", "(II)I"⟩ ⟨"VaryStore$Row", "skipBlanks", "(II)I"⟩ ∈ TB := tb_in 409 (by decide +kernel) (by decide +kernel)
set_option maxRecDepth 20000 in
theorem w_414 : Cond.code ⟨"VaryStore$Row", "skipBlanksBack", "(II)I"⟩ prog_3_method_12_code 4 (some .int) ∈ TB := tb_in 414 (by decide +kernel) (by decide +kernel)
set_option maxRecDepth 20000 in
theorem w_427 : Cond.methodLink "VaryStore$Items" 44 ⟨"VaryStore$Row", "skipBlanksBack", "(II)I"⟩ ∈ TB := tb_in 427 (by decide +kernel) (by decide +kernel)
set_option maxRecDepth 20000 in
theorem w_412 : Cond.instanceMethod ⟨"VaryStore$Row", "skipBlanksBack", "(II)I"⟩ ∈ TB := tb_in 412 (by decide +kernel) (by decide +kernel)
set_option maxRecDepth 20000 in
theorem w_413 : Cond.selects "VaryStore$Row" ⟨"VaryStore$Row", "skipBlanksBack", "(II)I"⟩ ⟨"VaryStore$Row", "skipBlanksBack", "(II)I"⟩ ∈ TB := tb_in 413 (by decide +kernel) (by decide +kernel)
set_option maxRecDepth 20000 in
theorem w_420 : Cond.methodLink "VaryStore$Items" 26 ⟨"VaryStore$Row", "clear", "()V"⟩ ∈ TB := tb_in 420 (by decide +kernel) (by decide +kernel)
set_option maxRecDepth 20000 in
theorem w_67 : Cond.fieldLinkNest "VaryStore$Items" 29 "VaryStore$Row" "length" "I" "VaryStore"  ∈ NB := nb_in 67 (by decide +kernel) (by decide +kernel)
set_option maxRecDepth 20000 in
theorem w_425 : Cond.code ⟨"VaryStore$Items", "addItem", "(LVaryStore$Row;II)V"⟩ prog_2_method_3_code 6 none ∈ TB := tb_in 425 (by decide +kernel) (by decide +kernel)
set_option maxRecDepth 20000 in
theorem w_422 : Cond.methodLink "VaryStore$Items" 36 ⟨"VaryStore$Items", "addItem", "(LVaryStore$Row;II)V"⟩ ∈ TB := tb_in 422 (by decide +kernel) (by decide +kernel)
set_option maxRecDepth 20000 in
theorem w_424 : Cond.instanceMethod ⟨"VaryStore$Items", "addItem", "(LVaryStore$Row;II)V"⟩ ∈ TB := tb_in 424 (by decide +kernel) (by decide +kernel)
set_option maxRecDepth 20000 in
theorem w_6 : Cond.selects "VaryStore$Items" ⟨"VaryStore$Items", "addItem", "(LVaryStore$Row;II)V"⟩ ⟨"VaryStore$Items", "addItem", "(LVaryStore$Row;II)V"⟩ ∈ TB := tb_in 6 (by decide +kernel) (by decide +kernel)
set_option maxRecDepth 20000 in
theorem w_471 : Cond.code ⟨"VaryStore$Items", "said", "(Ljava/lang/String;)I"⟩ prog_2_method_11_code 5 (some .int) ∈ TB := tb_in 471 (by decide +kernel) (by decide +kernel)
set_option maxRecDepth 20000 in
theorem w_492 : Cond.methodLink "VaryStore$Items" 78 ⟨"VaryStore$Items", "said", "(Ljava/lang/String;)I"⟩ ∈ TB := tb_in 492 (by decide +kernel) (by decide +kernel)
set_option maxRecDepth 20000 in
theorem w_469 : Cond.instanceMethod ⟨"VaryStore$Items", "said", "(Ljava/lang/String;)I"⟩ ∈ TB := tb_in 469 (by decide +kernel) (by decide +kernel)
set_option maxRecDepth 20000 in
theorem w_470 : Cond.selects "VaryStore$Items" ⟨"VaryStore$Items", "said", "(Ljava/lang/String;)I"⟩ ⟨"VaryStore$Items", "said", "(Ljava/lang/String;)I"⟩ ∈ TB := tb_in 470 (by decide +kernel) (by decide +kernel)
set_option maxRecDepth 20000 in
theorem w_346 : Cond.code ⟨"VaryStore$Row", "set", "(Ljava/lang/String;)V"⟩ prog_3_method_5_code 3 none ∈ TB := tb_in 346 (by decide +kernel) (by decide +kernel)
set_option maxRecDepth 20000 in
theorem w_343 : Cond.methodLink "VaryStore" 212 ⟨"VaryStore$Row", "set", "(Ljava/lang/String;)V"⟩ ∈ TB := tb_in 343 (by decide +kernel) (by decide +kernel)
set_option maxRecDepth 20000 in
theorem w_344 : Cond.instanceMethod ⟨"VaryStore$Row", "set", "(Ljava/lang/String;)V"⟩ ∈ TB := tb_in 344 (by decide +kernel) (by decide +kernel)
set_option maxRecDepth 20000 in
theorem w_345 : Cond.selects "VaryStore$Row" ⟨"VaryStore$Row", "set", "(Ljava/lang/String;)V"⟩ ⟨"VaryStore$Row", "set", "(Ljava/lang/String;)V"⟩ ∈ TB := tb_in 345 (by decide +kernel) (by decide +kernel)
set_option maxRecDepth 20000 in
theorem w_399 : Cond.code ⟨"VaryStore$Text", "gather", "(LVaryStore$Row;LVaryStore$Row;)Z"⟩ prog_5_method_5_code 6 (some .boolean) ∈ TB := tb_in 399 (by decide +kernel) (by decide +kernel)
set_option maxRecDepth 20000 in
theorem w_396 : Cond.methodLink "VaryStore" 215 ⟨"VaryStore$Text", "gather", "(LVaryStore$Row;LVaryStore$Row;)Z"⟩ ∈ TB := tb_in 396 (by decide +kernel) (by decide +kernel)
set_option maxRecDepth 20000 in
theorem w_397 : Cond.instanceMethod ⟨"VaryStore$Text", "gather", "(LVaryStore$Row;LVaryStore$Row;)Z"⟩ ∈ TB := tb_in 397 (by decide +kernel) (by decide +kernel)
set_option maxRecDepth 20000 in
theorem w_398 : Cond.selects "VaryStore$Text" ⟨"VaryStore$Text", "gather", "(LVaryStore$Row;LVaryStore$Row;)Z"⟩ ⟨"VaryStore$Text", "gather", "(LVaryStore$Row;LVaryStore$Row;)Z"⟩ ∈ TB := tb_in 398 (by decide +kernel) (by decide +kernel)
set_option maxRecDepth 20000 in
theorem w_30 : Cond.initialized "VaryStore" ∈ TB := tb_in 30 (by decide +kernel) (by decide +kernel)
set_option maxRecDepth 20000 in
theorem w_342 : Cond.code ⟨"VaryStore", "gather", "(LVaryStore$Text;Ljava/lang/String;)Z"⟩ prog_1_method_15_code 3 (some .boolean) ∈ TB := tb_in 342 (by decide +kernel) (by decide +kernel)
set_option maxRecDepth 20000 in
theorem w_339 : Cond.methodLink "VaryStore" 145 ⟨"VaryStore", "gather", "(LVaryStore$Text;Ljava/lang/String;)Z"⟩ ∈ TB := tb_in 339 (by decide +kernel) (by decide +kernel)
set_option maxRecDepth 20000 in
theorem w_341 : Cond.instanceMethod ⟨"VaryStore", "gather", "(LVaryStore$Text;Ljava/lang/String;)Z"⟩ ∈ TB := tb_in 341 (by decide +kernel) (by decide +kernel)
set_option maxRecDepth 20000 in
theorem w_5 : Cond.selects "VaryStore" ⟨"VaryStore", "gather", "(LVaryStore$Text;Ljava/lang/String;)Z"⟩ ⟨"VaryStore", "gather", "(LVaryStore$Text;Ljava/lang/String;)Z"⟩ ∈ TB := tb_in 5 (by decide +kernel) (by decide +kernel)
set_option maxRecDepth 20000 in
theorem w_419 : Cond.code ⟨"VaryStore$Items", "cut", "(LVaryStore$Row;)V"⟩ prog_2_method_2_code 4 none ∈ TB := tb_in 419 (by decide +kernel) (by decide +kernel)
set_option maxRecDepth 20000 in
theorem w_416 : Cond.methodLink "VaryStore" 218 ⟨"VaryStore$Items", "cut", "(LVaryStore$Row;)V"⟩ ∈ TB := tb_in 416 (by decide +kernel) (by decide +kernel)
set_option maxRecDepth 20000 in
theorem w_417 : Cond.instanceMethod ⟨"VaryStore$Items", "cut", "(LVaryStore$Row;)V"⟩ ∈ TB := tb_in 417 (by decide +kernel) (by decide +kernel)
set_option maxRecDepth 20000 in
theorem w_418 : Cond.selects "VaryStore$Items" ⟨"VaryStore$Items", "cut", "(LVaryStore$Row;)V"⟩ ⟨"VaryStore$Items", "cut", "(LVaryStore$Row;)V"⟩ ∈ TB := tb_in 418 (by decide +kernel) (by decide +kernel)
set_option maxRecDepth 20000 in
theorem w_66 : Cond.fieldLinkNest "VaryStore" 59 "VaryStore$Row" "length" "I" "VaryStore"  ∈ NB := nb_in 66 (by decide +kernel) (by decide +kernel)
set_option maxRecDepth 20000 in
theorem w_486 : Cond.code ⟨"VaryStore$Row", "number", "(II)I"⟩ prog_3_method_13_code 5 (some .int) ∈ TB := tb_in 486 (by decide +kernel) (by decide +kernel)
set_option maxRecDepth 20000 in
theorem w_621 : Cond.methodLink "VaryStore" 222 ⟨"VaryStore$Row", "number", "(II)I"⟩ ∈ TB := tb_in 621 (by decide +kernel) (by decide +kernel)
set_option maxRecDepth 20000 in
theorem w_484 : Cond.instanceMethod ⟨"VaryStore$Row", "number", "(II)I"⟩ ∈ TB := tb_in 484 (by decide +kernel) (by decide +kernel)
set_option maxRecDepth 20000 in
theorem w_485 : Cond.selects "VaryStore$Row" ⟨"VaryStore$Row", "number", "(II)I"⟩ ⟨"VaryStore$Row", "number", "(II)I"⟩ ∈ TB := tb_in 485 (by decide +kernel) (by decide +kernel)
set_option maxRecDepth 20000 in
theorem w_85 : Cond.fieldLinkNest "VaryStore" 133 "VaryStore$Shelf" "count" "I" "VaryStore"  ∈ NB := nb_in 85 (by decide +kernel) (by decide +kernel)
set_option maxRecDepth 20000 in
theorem w_229 : Cond.code ⟨"VaryStore$Row", "copy", "(LVaryStore$Row;)V"⟩ prog_3_method_6_code 2 none ∈ TB := tb_in 229 (by decide +kernel) (by decide +kernel)
set_option maxRecDepth 20000 in
theorem w_226 : Cond.methodLink "VaryStore$Text" 32 ⟨"VaryStore$Row", "copy", "(LVaryStore$Row;)V"⟩ ∈ TB := tb_in 226 (by decide +kernel) (by decide +kernel)
set_option maxRecDepth 20000 in
theorem w_227 : Cond.instanceMethod ⟨"VaryStore$Row", "copy", "(LVaryStore$Row;)V"⟩ ∈ TB := tb_in 227 (by decide +kernel) (by decide +kernel)
set_option maxRecDepth 20000 in
theorem w_228 : Cond.selects "VaryStore$Row" ⟨"VaryStore$Row", "copy", "(LVaryStore$Row;)V"⟩ ⟨"VaryStore$Row", "copy", "(LVaryStore$Row;)V"⟩ ∈ TB := tb_in 228 (by decide +kernel) (by decide +kernel)
set_option maxRecDepth 20000 in
theorem w_68 : Cond.fieldLinkNest "VaryStore$Text" 48 "VaryStore$Row" "length" "I" "VaryStore"  ∈ NB := nb_in 68 (by decide +kernel) (by decide +kernel)
set_option maxRecDepth 100000 in
theorem fa_It_29 : FA "VaryStore$Items" 29 2 1 R_Ro F_Ro 2 t_Ro := ⟨rfl, uw_Ro, by decide, to_Ro, n_Ro, Or.inr ⟨"VaryStore", w_67⟩⟩
set_option maxRecDepth 100000 in
theorem fa_VS_59 : FA "VaryStore" 59 2 1 R_Ro F_Ro 2 t_Ro := ⟨rfl, uw_Ro, by decide, to_Ro, n_Ro, Or.inr ⟨"VaryStore", w_66⟩⟩
set_option maxRecDepth 100000 in
theorem fa_VS_133 : FA "VaryStore" 133 3 1 R_Sh F_Sh 3 t_Sh := ⟨rfl, uw_Sh, by decide, to_Sh, n_Sh, Or.inr ⟨"VaryStore", w_85⟩⟩
set_option maxRecDepth 100000 in
theorem fa_Te_48 : FA "VaryStore$Text" 48 2 1 R_Ro F_Ro 2 t_Ro := ⟨rfl, uw_Ro, by decide, to_Ro, n_Ro, Or.inr ⟨"VaryStore", w_68⟩⟩
def k_Ro_skip0 : MS := ("VaryStore$Row", b_Ro_skipBlanks, 4, (some .int), "skipBlanks", { frames := 0, cells := 0, slots := 0, locals := 0 }, [])
set_option maxRecDepth 100000 in
set_option maxHeartbeats 4000000 in
theorem c_Ro_skip0 (Γ : GE) (a : Nat) {M : HM} {n : Nat}   : CT Γ k_Ro_skip0 y_Ro_skipBlanks [.ref (a), .int (iI (0)), .int (iI (0))] M (n) (fun v M' n' => n = n' ∧ (∀ q, M' q = M q) ∧ v = some (.int (iI (0)))) := by
  refine CT.of (by decide) rfl rfl 1 rfl (Nat.le_of_ble_eq_true rfl) rfl ?_
  refine g_iload_n d_Ro_skipBlanks_0 rfl ?_
  refine g_istore_n d_Ro_skipBlanks_1 (by decide) rfl ?_
  refine g_iload_n d_Ro_skipBlanks_2 rfl ?_
  refine g_iload_n d_Ro_skipBlanks_3 rfl ?_
  refine g_icmp_ge (tgt := 23) d_Ro_skipBlanks_4 (by decide) (fun _ => ?_) (fun h1 => False.elim (by omega))
  refine g_iload_n d_Ro_skipBlanks_23 rfl ?_
  refine g_iret d_Ro_skipBlanks_24 rfl ?_ (by decide) (by decide)
  exact ⟨rfl, fun q  => rfl, rfl⟩
def k_Ro_skipb0 : MS := ("VaryStore$Row", b_Ro_skipBlanksBack, 4, (some .int), "skipBlanksBack", { frames := 0, cells := 0, slots := 0, locals := 0 }, [])
set_option maxRecDepth 100000 in
set_option maxHeartbeats 4000000 in
theorem c_Ro_skipb0 (Γ : GE) (a : Nat) {M : HM} {n : Nat}   : CT Γ k_Ro_skipb0 y_Ro_skipBlanksBack [.ref (a), .int (iI (0)), .int (iI (0))] M (n) (fun v M' n' => n = n' ∧ (∀ q, M' q = M q) ∧ v = some (.int (iI (0)))) := by
  refine CT.of (by decide) rfl rfl 1 rfl (Nat.le_of_ble_eq_true rfl) rfl ?_
  refine g_iload_n d_Ro_skipBlanksBack_0 rfl ?_
  refine g_istore_n d_Ro_skipBlanksBack_1 (by decide) rfl ?_
  refine g_iload_n d_Ro_skipBlanksBack_2 rfl ?_
  refine g_iload_n d_Ro_skipBlanksBack_3 rfl ?_
  refine g_icmp_le (tgt := 25) d_Ro_skipBlanksBack_4 (by decide) (fun _ => ?_) (fun h1 => False.elim (by omega))
  refine g_iload_n d_Ro_skipBlanksBack_25 rfl ?_
  refine g_iret d_Ro_skipBlanksBack_26 rfl ?_ (by decide) (by decide)
  exact ⟨rfl, fun q  => rfl, rfl⟩
def k_Te_gather0 : MS := ("VaryStore$Text", b_Te_gather, 6, (some .boolean), "gather", { frames := 1, cells := 0, slots := 0, locals := 20 }, [])
set_option maxRecDepth 100000 in
set_option maxHeartbeats 4000000 in
theorem c_Te_gather0 (Γ : GE) (t : Nat) (m : Nat) (c : Nat) (x : Nat) (z : Int) {M : HM} {n : Nat} (htc : t ≠ c) (p0 : M (t) = some (.inr (4, [.ref (t + 1), .ref (t + 3), .ref (t + 4), .ref (t + 5), .int (iI (0))]))) (p1 : M (c) = some (.inr (2, [.ref (x), .int (iI (z))]))) : CT Γ k_Te_gather0 y_Te_gather [.ref (t), .ref (m), .ref (c)] M (n) (fun v M' n' => n = n' ∧ (∀ q, q ≠ c → M' q = M q) ∧ v = some (.int (iI (0))) ∧ M' (c) = some (.inr (2, [.ref (x), .int (iI (0))]))) := by
  refine CT.of (by decide) rfl rfl 3 rfl (Nat.le_of_ble_eq_true rfl) rfl ?_
  refine g_iconst d_Te_gather_0 ?_
  refine g_istore_n d_Te_gather_1 (by decide) rfl ?_
  refine g_aload_n d_Te_gather_2 rfl ?_
  refine g_callV0 (ν := k_Ro_clear) ⟨w_400, w_31, w_233, by decide, by decide, by decide +kernel⟩ w_231 w_232 (c_Ro_clear Γ (c) (x) (z)  p1) d_Te_gather_3 p1 rfl rfl ⟨⟨by decide, by decide⟩, ⟨by decide, by decide⟩⟩ (Nat.le_of_ble_eq_true rfl) (fun v1 M1 n1 hQ1 hn1 hd1 => ?_)
  obtain ⟨rfl, hf1, rfl, hw1_0⟩ := hQ1
  refine g_iconst d_Te_gather_6 ?_
  refine g_istore d_Te_gather_7 (by decide) rfl ?_
  refine g_iload d_Te_gather_9 rfl ?_
  refine g_aload_n d_Te_gather_11 rfl ?_
  refine g_get fa_Te_28 d_Te_gather_12 ((hf1 (t) (by omega)).trans p0) rfl ?_
  refine g_icmp_ge (tgt := 134) d_Te_gather_15 (by decide) (fun _ => ?_) (fun h2 => False.elim (by omega))
  refine g_iload_n d_Te_gather_134 rfl ?_
  refine g_zret (ty := .boolean) (by first | rfl | decide) d_Te_gather_135 rfl ?_ (by decide) (by decide)
  exact ⟨rfl, fun q e0 => ((hf1 q (by omega)).trans rfl), rfl, hw1_0⟩
def k_It_addItem0 : MS := ("VaryStore$Items", b_It_addItem, 6, none, "addItem", { frames := 1, cells := 0, slots := 0, locals := 23 }, [])
set_option maxRecDepth 100000 in
set_option maxHeartbeats 4000000 in
theorem c_It_addItem0 (Γ : GE) (s : Nat) (v : Nat) (x : Nat) {M : HM} {n : Nat}  (p0 : M (v) = some (.inr (2, [.ref (x), .int (iI (0))]))) : CT Γ k_It_addItem0 y_It_addItem [.ref (s), .ref (v), .int (iI (0)), .int (iI (0))] M (n) (fun v M' n' => n = n' ∧ (∀ q, M' q = M q) ∧ v = none) := by
  refine CT.of (by decide) rfl rfl 2 rfl (Nat.le_of_ble_eq_true rfl) rfl ?_
  refine g_aload_n d_It_addItem_0 rfl ?_
  refine g_iload_n d_It_addItem_1 rfl ?_
  refine g_iload_n d_It_addItem_2 rfl ?_
  refine g_callV2 (ν := k_Ro_skip0) ⟨w_426, w_31, w_410, by decide, by decide, by decide +kernel⟩ w_408 w_409 (c_Ro_skip0 Γ (v)  ) d_It_addItem_3 p0 rfl rfl ⟨⟨by decide, by decide⟩, ⟨by decide, by decide⟩⟩ (Nat.le_of_ble_eq_true rfl) (fun v1 M1 n1 hQ1 hn1 hd1 => ?_)
  obtain ⟨rfl, hf1, rfl⟩ := hQ1
  refine g_istore d_It_addItem_6 (by decide) rfl ?_
  refine g_aload_n d_It_addItem_8 rfl ?_
  refine g_iload d_It_addItem_9 rfl ?_
  refine g_iload_n d_It_addItem_11 rfl ?_
  refine g_callV2 (ν := k_Ro_skipb0) ⟨w_427, w_31, w_414, by decide, by decide, by decide +kernel⟩ w_412 w_413 (c_Ro_skipb0 Γ (v)  ) d_It_addItem_12 ((hf1 (v) ).trans p0) rfl rfl ⟨⟨by decide, by decide⟩, ⟨by decide, by decide⟩⟩ (Nat.le_of_ble_eq_true rfl) (fun v2 M2 n2 hQ2 hn2 hd2 => ?_)
  obtain ⟨rfl, hf2, rfl⟩ := hQ2
  refine g_istore d_It_addItem_15 (by decide) rfl ?_
  refine g_iload d_It_addItem_17 rfl ?_
  refine g_iload d_It_addItem_19 rfl ?_
  refine g_icmp_ge (tgt := 36) d_It_addItem_21 (by decide) (fun _ => ?_) (fun h3 => False.elim (by omega))
  refine g_vret d_It_addItem_36 rfl ?_ (by decide) (by decide)
  exact ⟨rfl, fun q  => ((hf2 q ).trans ((hf1 q ).trans rfl)), rfl⟩
def k_It_cut0 : MS := ("VaryStore$Items", b_It_cut, 4, none, "cut", { frames := 2, cells := 0, slots := 0, locals := 48 }, [])
set_option maxRecDepth 100000 in
set_option maxHeartbeats 4000000 in
theorem c_It_cut0 (Γ : GE) (s : Nat) (v : Nat) (cc : Int) (z : Int) (y : Nat) (e : Nat) (x : Nat) {M : HM} {n : Nat} (h1 : v ≠ s) (h2 : v ≠ s + 1) (p0 : M (s) = some (.inr (1, [.ref (s + 1), .ref (e), .int (iI (cc))]))) (p1 : M (s + 1) = some (.inr (2, [.ref (y), .int (iI (z))]))) (p2 : M (v) = some (.inr (2, [.ref (x), .int (iI (0))]))) : CT Γ k_It_cut0 y_It_cut [.ref (s), .ref (v)] M (n) (fun v M' n' => n = n' ∧ (∀ q, q ≠ s + 1 → q ≠ s → M' q = M q) ∧ v = none ∧ M' (s + 1) = some (.inr (2, [.ref (y), .int (iI (0))])) ∧ M' (s) = some (.inr (1, [.ref (s + 1), .ref (e), .int (iI (0))]))) := by
  refine CT.of (by decide) rfl rfl 2 rfl (Nat.le_of_ble_eq_true rfl) rfl ?_
  refine g_aload_n d_It_cut_0 rfl ?_
  refine g_get fa_It_12 d_It_cut_1 p0 rfl ?_
  refine g_callV0 (ν := k_Ro_clear) ⟨w_420, w_31, w_233, by decide, by decide, by decide +kernel⟩ w_231 w_232 (c_Ro_clear Γ (s + 1) (y) (z)  p1) d_It_cut_4 p1 rfl rfl ⟨⟨by decide, by decide⟩, ⟨by decide, by decide⟩⟩ (Nat.le_of_ble_eq_true rfl) (fun v1 M1 n1 hQ1 hn1 hd1 => ?_)
  obtain ⟨rfl, hf1, rfl, hw1_0⟩ := hQ1
  refine g_aload_n d_It_cut_7 rfl ?_
  refine g_iconst d_It_cut_8 ?_
  refine g_put fa_It_22 d_It_cut_9 ((hf1 (s) (by omega)).trans p0) (Nat.le_of_ble_eq_true rfl) rfl rfl rfl ?_
  refine g_iconst d_It_cut_12 ?_
  refine g_istore_n d_It_cut_13 (by decide) rfl ?_
  refine g_iconst d_It_cut_14 ?_
  refine g_istore_n d_It_cut_15 (by decide) rfl ?_
  refine g_iload_n d_It_cut_16 rfl ?_
  refine g_aload_n d_It_cut_17 rfl ?_
  refine g_get fa_It_29 d_It_cut_18 ((hu_ne (by omega)).trans ((hf1 (v) (by omega)).trans p2)) rfl ?_
  refine g_icmp_gt (tgt := 59) d_It_cut_21 (by decide) (fun h2 => False.elim (by omega)) (fun _ => ?_)
  refine g_iload_n d_It_cut_24 rfl ?_
  refine g_aload_n d_It_cut_25 rfl ?_
  refine g_get fa_It_29 d_It_cut_26 ((hu_ne (by omega)).trans ((hf1 (v) (by omega)).trans p2)) rfl ?_
  refine g_icmp_eq (tgt := 42) d_It_cut_29 (by decide) (fun _ => ?_) (fun h3 => False.elim (by omega))
  refine g_aload_n d_It_cut_42 rfl ?_
  refine g_aload_n d_It_cut_43 rfl ?_
  refine g_iload_n d_It_cut_44 rfl ?_
  refine g_iload_n d_It_cut_45 rfl ?_
  refine g_callV3 (ν := k_It_addItem0) ⟨w_422, w_34, w_425, by decide, by decide, by decide +kernel⟩ w_424 w_6 (c_It_addItem0 Γ (s) (v) (x)  ((hu_ne (by omega)).trans ((hf1 (v) (by omega)).trans p2))) d_It_cut_46 (hu_same _ _ _) rfl rfl ⟨⟨by decide, by decide⟩, ⟨by decide, by decide⟩⟩ (Nat.le_of_ble_eq_true rfl) (fun v4 M4 n4 hQ4 hn4 hd4 => ?_)
  obtain ⟨rfl, hf4, rfl⟩ := hQ4
  refine g_iload_n d_It_cut_49 rfl ?_
  refine g_iconst d_It_cut_50 ?_
  refine g_iadd d_It_cut_51 ?_
  refine g_istore_n d_It_cut_52 (by decide) rfl ?_
  refine g_iinc d_It_cut_53 rfl (by decide) rfl ?_
  refine g_goto (tgt := 16) d_It_cut_56 (by decide) ?_
  refine g_iload_n d_It_cut_16 rfl ?_
  refine g_aload_n d_It_cut_17 rfl ?_
  refine g_get fa_It_29 d_It_cut_18 ((hf4 (v) ).trans ((hu_ne (by omega)).trans ((hf1 (v) (by omega)).trans p2))) rfl ?_
  refine g_icmp_gt (tgt := 59) d_It_cut_21 (by decide) (fun _ => ?_) (fun h5 => False.elim (by omega))
  refine g_vret d_It_cut_59 rfl ?_ (by decide) (by decide)
  exact ⟨rfl, fun q e0 e1 => ((hf4 q ).trans ((hu_ne (by omega)).trans ((hf1 q (by omega)).trans rfl))), rfl, ((hf4 (s + 1) ).trans ((hu_ne (by omega)).trans hw1_0)), ((hf4 (s) ).trans (hu_same _ _ _))⟩
def k_It_said0 : MS := ("VaryStore$Items", b_It_said, 5, (some .int), "said", { frames := 0, cells := 0, slots := 0, locals := 0 }, [])
set_option maxRecDepth 100000 in
set_option maxHeartbeats 4000000 in
theorem c_It_said0 (Γ : GE) (s : Nat) (li : Nat) (r : Nat) (e : Nat) {M : HM} {n : Nat}  (p0 : M (s) = some (.inr (1, [.ref (r), .ref (e), .int (iI (0))]))) : CT Γ k_It_said0 y_It_said [.ref (s), .ref (Γ.2.2.2.1 li)] M (n) (fun v M' n' => n = n' ∧ (∀ q, M' q = M q) ∧ v = some (.int (iI ((-2))))) := by
  refine CT.of (by decide) rfl rfl 3 rfl (Nat.le_of_ble_eq_true rfl) rfl ?_
  refine g_bipush d_It_said_0 (by decide) ?_
  refine g_istore_n d_It_said_2 (by decide) rfl ?_
  refine g_iconst d_It_said_3 ?_
  refine g_istore_n d_It_said_4 (by decide) rfl ?_
  refine g_iload_n d_It_said_5 rfl ?_
  refine g_aload_n d_It_said_6 rfl ?_
  refine g_get fa_It_22 d_It_said_7 p0 rfl ?_
  refine g_icmp_ge (tgt := 46) d_It_said_10 (by decide) (fun _ => ?_) (fun h1 => False.elim (by omega))
  refine g_iload_n d_It_said_46 rfl ?_
  refine g_iret d_It_said_47 rfl ?_ (by decide) (by decide)
  exact ⟨rfl, fun q  => rfl, rfl⟩
def k_It_has0 : MS := ("VaryStore$Items", b_It_has, 2, (some .boolean), "has", { frames := 1, cells := 0, slots := 0, locals := 24 }, [])
set_option maxRecDepth 100000 in
set_option maxHeartbeats 4000000 in
theorem c_It_has0 (Γ : GE) (s : Nat) (li : Nat) (r : Nat) (e : Nat) {M : HM} {n : Nat}  (p0 : M (s) = some (.inr (1, [.ref (r), .ref (e), .int (iI (0))]))) : CT Γ k_It_has0 y_It_has [.ref (s), .ref (Γ.2.2.2.1 li)] M (n) (fun v M' n' => n = n' ∧ (∀ q, M' q = M q) ∧ v = some (.int (iI (0)))) := by
  refine CT.of (by decide) rfl rfl 0 rfl (Nat.le_of_ble_eq_true rfl) rfl ?_
  refine g_aload_n d_It_has_0 rfl ?_
  refine g_aload_n d_It_has_1 rfl ?_
  refine g_callV1 (ν := k_It_said0) ⟨w_492, w_34, w_471, by decide, by decide, by decide +kernel⟩ w_469 w_470 (c_It_said0 Γ (s) (li) (r) (e)  p0) d_It_has_2 p0 rfl rfl ⟨⟨by decide, by decide⟩, ⟨by decide, by decide⟩⟩ (Nat.le_of_ble_eq_true rfl) (fun v1 M1 n1 hQ1 hn1 hd1 => ?_)
  obtain ⟨rfl, hf1, rfl⟩ := hQ1
  refine g_bipush d_It_has_5 (by decide) ?_
  refine g_icmp_eq (tgt := 14) d_It_has_7 (by decide) (fun _ => ?_) (fun h2 => False.elim (by omega))
  refine g_iconst d_It_has_14 ?_
  refine g_zret (ty := .boolean) (by first | rfl | decide) d_It_has_15 rfl ?_ (by decide) (by decide)
  exact ⟨rfl, fun q  => ((hf1 q ).trans rfl), rfl⟩
def k_It_holds0 : MS := ("VaryStore$Items", b_It_holds, 4, (some .boolean), "holds", { frames := 0, cells := 0, slots := 0, locals := 0 }, [])
set_option maxRecDepth 100000 in
set_option maxHeartbeats 4000000 in
theorem c_It_holds0 (Γ : GE) (s : Nat) (li : Nat) (r : Nat) (e : Nat) {M : HM} {n : Nat}  (p0 : M (s) = some (.inr (1, [.ref (r), .ref (e), .int (iI (0))]))) : CT Γ k_It_holds0 y_It_holds [.ref (s), .ref (Γ.2.2.2.1 li)] M (n) (fun v M' n' => n = n' ∧ (∀ q, M' q = M q) ∧ v = some (.int (iI (0)))) := by
  refine CT.of (by decide) rfl rfl 2 rfl (Nat.le_of_ble_eq_true rfl) rfl ?_
  refine g_iconst d_It_holds_0 ?_
  refine g_istore_n d_It_holds_1 (by decide) rfl ?_
  refine g_iload_n d_It_holds_2 rfl ?_
  refine g_aload_n d_It_holds_3 rfl ?_
  refine g_get fa_It_22 d_It_holds_4 p0 rfl ?_
  refine g_icmp_ge (tgt := 47) d_It_holds_7 (by decide) (fun _ => ?_) (fun h1 => False.elim (by omega))
  refine g_iconst d_It_holds_47 ?_
  refine g_zret (ty := .boolean) (by first | rfl | decide) d_It_holds_48 rfl ?_ (by decide) (by decide)
  exact ⟨rfl, fun q  => rfl, rfl⟩
def k_Ro_number0 : MS := ("VaryStore$Row", b_Ro_number, 5, (some .int), "number", { frames := 0, cells := 0, slots := 0, locals := 0 }, [])
set_option maxRecDepth 100000 in
set_option maxHeartbeats 4000000 in
theorem c_Ro_number0 (Γ : GE) (a : Nat) {M : HM} {n : Nat}   : CT Γ k_Ro_number0 y_Ro_number [.ref (a), .int (iI (0)), .int (iI (0))] M (n) (fun v M' n' => n = n' ∧ (∀ q, M' q = M q) ∧ v = some (.int (iI ((-1))))) := by
  refine CT.of (by decide) rfl rfl 2 rfl (Nat.le_of_ble_eq_true rfl) rfl ?_
  refine g_iload_n d_Ro_number_0 rfl ?_
  refine g_iload_n d_Ro_number_1 rfl ?_
  refine g_isub d_Ro_number_2 ?_
  refine g_iconst d_Ro_number_3 ?_
  refine g_icmp_lt (tgt := 15) d_Ro_number_4 (by decide) (fun _ => ?_) (fun h1 => False.elim (by omega))
  refine g_iconst d_Ro_number_15 ?_
  refine g_iret d_Ro_number_16 rfl ?_ (by decide) (by decide)
  exact ⟨rfl, fun q  => rfl, rfl⟩
def k_VS_gather0 : MS := ("VaryStore", b_VS_gather, 3, (some .boolean), "gather", { frames := 5, cells := 0, slots := 0, locals := 107 }, [])
set_option maxRecDepth 100000 in
set_option maxHeartbeats 4000000 in
theorem c_VS_gather0 (Γ : GE) (b : Nat) (rq : Nat) (dr : Nat) (fp : Int) (tm : Int) (t : Nat) (li : Nat) (z : Int) (f : Nat → Int32) (w : Int) (x : Nat) {M : HM} {n : Nat} (hl : li < nLit) (ht : t + 6 ≤ b + 17 ∨ b + 33 ≤ t) (p0 : M (b) = some (.inr (0, [.ref (b + 1), .ref (b + 3), .ref (rq), .ref (dr), .int (iI (fp)), .int (iI (tm)), .ref (b + 17), .ref (b + 19), .ref (b + 21), .ref (b + 25), .ref (b + 29)]))) (p1 : M (b + 17) = some (.inr (2, [.ref (b + 18), .int (iI (z))]))) (p2 : M (b + 17 + 1) = some (.inl (Γ.2.2.1 0, 300, .inl (f)))) (p3 : M (b + 19) = some (.inr (2, [.ref (x), .int (iI (w))]))) (p4 : M (t) = some (.inr (4, [.ref (t + 1), .ref (t + 3), .ref (t + 4), .ref (t + 5), .int (iI (0))]))) : CT Γ k_VS_gather0 y_VS_gather [.ref (b), .ref (t), .ref (Γ.2.2.2.1 li)] M (n) (fun v M' n' => n = n' ∧ (∀ q, q ≠ b + 17 → q ≠ b + 18 → q ≠ b + 19 → M' q = M q) ∧ ∃ (zs1x0 : Int) (fs1x1 : Nat → Int32), v = some (.int (iI (0))) ∧ 0 ≤ zs1x0 ∧ zs1x0 ≤ 40 ∧ M' (b + 17) = some (.inr (2, [.ref (b + 18), .int (iI (zs1x0))])) ∧ M' (b + 18) = some (.inl (Γ.2.2.1 0, 300, .inl (fs1x1))) ∧ M' (b + 19) = some (.inr (2, [.ref (x), .int (iI (0))]))) := by
  refine CT.of (by decide) rfl rfl 0 rfl (Nat.le_of_ble_eq_true rfl) rfl ?_
  refine g_aload_n d_VS_gather_0 rfl ?_
  refine g_get fa_VS_40 d_VS_gather_1 p0 rfl ?_
  refine g_aload_n d_VS_gather_4 rfl ?_
  refine g_callV1 (ν := k_Ro_set) ⟨w_343, w_31, w_346, by decide, by decide, by decide +kernel⟩ w_344 w_345 (c_Ro_set Γ (b + 17) (li) (z) (f) (by first | omega | decide | (have h9 := lenLit_le li; omega)) p1 p2) d_VS_gather_5 p1 rfl rfl ⟨⟨by decide, by decide⟩, ⟨by decide, by decide⟩⟩ (Nat.le_of_ble_eq_true rfl) (fun v1 M1 n1 hQ1 hn1 hd1 => ?_)
  obtain ⟨rfl, hf1, zs1x0, fs1x1, rfl, hb1_zs1x0_0, hb1_zs1x0_1, hw1_0, hw1_1⟩ := hQ1
  refine g_aload_n d_VS_gather_8 rfl ?_
  refine g_aload_n d_VS_gather_9 rfl ?_
  refine g_get fa_VS_40 d_VS_gather_10 ((hf1 (b) (by omega) (by omega)).trans p0) rfl ?_
  refine g_aload_n d_VS_gather_13 rfl ?_
  refine g_get fa_VS_43 d_VS_gather_14 ((hf1 (b) (by omega) (by omega)).trans p0) rfl ?_
  refine g_callV2 (ν := k_Te_gather0) ⟨w_396, w_33, w_399, by decide, by decide, by decide +kernel⟩ w_397 w_398 (c_Te_gather0 Γ (t) (b + 17) (b + 19) (x) (w) (by omega) ((hf1 (t) (by omega) (by omega)).trans p4) ((hf1 ((b + 19)) (by omega) (by omega)).trans p3)) d_VS_gather_17 ((hf1 (t) (by omega) (by omega)).trans p4) rfl rfl ⟨⟨by decide, by decide⟩, ⟨by decide, by decide⟩⟩ (Nat.le_of_ble_eq_true rfl) (fun v2 M2 n2 hQ2 hn2 hd2 => ?_)
  obtain ⟨rfl, hf2, rfl, hw2_0⟩ := hQ2
  refine g_zret (ty := .boolean) (by first | rfl | exact nar_char (by omega)) d_VS_gather_20 rfl ?_ (by decide) (by decide)
  exact ⟨rfl, fun q e0 e1 e2 => ((hf2 q (by omega)).trans ((hf1 q (by omega) (by omega)).trans rfl)), zs1x0, fs1x1, rfl, hb1_zs1x0_0, hb1_zs1x0_1, ((hf2 (b + 17) (by omega)).trans hw1_0), ((hf2 (b + 18) (by omega)).trans hw1_1), hw2_0⟩
def k_VS_cutList0 : MS := ("VaryStore", b_VS_cutList, 5, (some .boolean), "cutList", { frames := 6, cells := 0, slots := 0, locals := 129 }, [])
set_option maxRecDepth 100000 in
set_option maxHeartbeats 4000000 in
theorem c_VS_cutList0 (Γ : GE) (b : Nat) (rq : Nat) (dr : Nat) (fp : Int) (tm : Int) (t : Nat) (li : Nat) (s : Nat) (z : Int) (f : Nat → Int32) (w : Int) (x : Nat) (cc : Int) (zz : Int) (y : Nat) (e : Nat) {M : HM} {n : Nat} (hl : li < nLit) (ht : t + 6 ≤ b + 17 ∨ b + 33 ≤ t) (hs : b + 21 ≤ s) (p0 : M (b) = some (.inr (0, [.ref (b + 1), .ref (b + 3), .ref (rq), .ref (dr), .int (iI (fp)), .int (iI (tm)), .ref (b + 17), .ref (b + 19), .ref (b + 21), .ref (b + 25), .ref (b + 29)]))) (p1 : M (b + 17) = some (.inr (2, [.ref (b + 18), .int (iI (z))]))) (p2 : M (b + 17 + 1) = some (.inl (Γ.2.2.1 0, 300, .inl (f)))) (p3 : M (b + 19) = some (.inr (2, [.ref (x), .int (iI (w))]))) (p4 : M (t) = some (.inr (4, [.ref (t + 1), .ref (t + 3), .ref (t + 4), .ref (t + 5), .int (iI (0))]))) (p5 : M (s) = some (.inr (1, [.ref (s + 1), .ref (e), .int (iI (cc))]))) (p6 : M (s + 1) = some (.inr (2, [.ref (y), .int (iI (zz))]))) : CT Γ k_VS_cutList0 y_VS_cutList [.ref (b), .ref (t), .ref (Γ.2.2.2.1 li), .ref (s)] M (n) (fun v M' n' => n = n' ∧ (∀ q, q ≠ b + 17 → q ≠ b + 18 → q ≠ b + 19 → q ≠ s + 1 → q ≠ s → M' q = M q) ∧ ∃ (zs1x0 : Int) (fs1x1 : Nat → Int32), v = some (.int (iI (0))) ∧ 0 ≤ zs1x0 ∧ zs1x0 ≤ 40 ∧ M' (b + 17) = some (.inr (2, [.ref (b + 18), .int (iI (zs1x0))])) ∧ M' (b + 18) = some (.inl (Γ.2.2.1 0, 300, .inl (fs1x1))) ∧ M' (b + 19) = some (.inr (2, [.ref (x), .int (iI (0))])) ∧ M' (s + 1) = some (.inr (2, [.ref (y), .int (iI (0))])) ∧ M' (s) = some (.inr (1, [.ref (s + 1), .ref (e), .int (iI (0))]))) := by
  refine CT.of (by decide) rfl rfl 1 rfl (Nat.le_of_ble_eq_true rfl) rfl ?_
  refine g_aload_n d_VS_cutList_0 rfl ?_
  refine g_aload_n d_VS_cutList_1 rfl ?_
  refine g_aload_n d_VS_cutList_2 rfl ?_
  refine g_callV2 (ν := k_VS_gather0) ⟨w_339, w_30, w_342, by decide, by decide, by decide +kernel⟩ w_341 w_5 (c_VS_gather0 Γ (b) (rq) (dr) (fp) (tm) (t) (li) (z) (f) (w) (x) (by first | omega | decide | (have h9 := lenLit_le li; omega)) (by first | omega | decide | (have h9 := lenLit_le li; omega)) p0 p1 p2 p3 p4) d_VS_cutList_3 p0 rfl rfl ⟨⟨by decide, by decide⟩, ⟨by decide, by decide⟩⟩ (Nat.le_of_ble_eq_true rfl) (fun v1 M1 n1 hQ1 hn1 hd1 => ?_)
  obtain ⟨rfl, hf1, zs1x0, fs1x1, rfl, hb1_zs1x0_0, hb1_zs1x0_1, hw1_0, hw1_1, hw1_2⟩ := hQ1
  refine g_istore d_VS_cutList_6 (by decide) rfl ?_
  refine g_aload_n d_VS_cutList_8 rfl ?_
  refine g_aload_n d_VS_cutList_9 rfl ?_
  refine g_get fa_VS_43 d_VS_cutList_10 ((hf1 (b) (by omega) (by omega) (by omega)).trans p0) rfl ?_
  refine g_callV1 (ν := k_It_cut0) ⟨w_416, w_34, w_419, by decide, by decide, by decide +kernel⟩ w_417 w_418 (c_It_cut0 Γ (s) (b + 19) (cc) (zz) (y) (e) (x) (by omega) (by omega) ((hf1 (s) (by omega) (by omega) (by omega)).trans p5) ((hf1 (s + 1) (by omega) (by omega) (by omega)).trans p6) hw1_2) d_VS_cutList_13 ((hf1 (s) (by omega) (by omega) (by omega)).trans p5) rfl rfl ⟨⟨by decide, by decide⟩, ⟨by decide, by decide⟩⟩ (Nat.le_of_ble_eq_true rfl) (fun v2 M2 n2 hQ2 hn2 hd2 => ?_)
  obtain ⟨rfl, hf2, rfl, hw2_0, hw2_1⟩ := hQ2
  refine g_iload d_VS_cutList_16 rfl ?_
  refine g_zret (ty := .boolean) (by first | rfl | exact nar_char (by omega)) d_VS_cutList_18 rfl ?_ (by decide) (by decide)
  exact ⟨rfl, fun q e0 e1 e2 e3 e4 => ((hf2 q (by omega) (by omega)).trans ((hf1 q (by omega) (by omega) (by omega)).trans rfl)), zs1x0, fs1x1, rfl, hb1_zs1x0_0, hb1_zs1x0_1, ((hf2 (b + 17) (by omega) (by omega)).trans hw1_0), ((hf2 (b + 18) (by omega) (by omega)).trans hw1_1), ((hf2 (b + 19) (by omega) (by omega)).trans hw1_2), hw2_0, hw2_1⟩
def k_VS_numberOf0 : MS := ("VaryStore", b_VS_numberOf, 2, (some .int), "numberOf", { frames := 6, cells := 0, slots := 0, locals := 129 }, [])
set_option maxRecDepth 100000 in
set_option maxHeartbeats 4000000 in
theorem c_VS_numberOf0 (Γ : GE) (b : Nat) (rq : Nat) (dr : Nat) (fp : Int) (tm : Int) (li : Nat) (z : Int) (f : Nat → Int32) (w : Int) (x : Nat) {M : HM} {n : Nat} (hl : li < nLit) (ht : dr + 6 ≤ b + 17 ∨ b + 33 ≤ dr) (p0 : M (b) = some (.inr (0, [.ref (b + 1), .ref (b + 3), .ref (rq), .ref (dr), .int (iI (fp)), .int (iI (tm)), .ref (b + 17), .ref (b + 19), .ref (b + 21), .ref (b + 25), .ref (b + 29)]))) (p1 : M (b + 17) = some (.inr (2, [.ref (b + 18), .int (iI (z))]))) (p2 : M (b + 17 + 1) = some (.inl (Γ.2.2.1 0, 300, .inl (f)))) (p3 : M (b + 19) = some (.inr (2, [.ref (x), .int (iI (w))]))) (p4 : M (dr) = some (.inr (4, [.ref (dr + 1), .ref (dr + 3), .ref (dr + 4), .ref (dr + 5), .int (iI (0))]))) : CT Γ k_VS_numberOf0 y_VS_numberOf [.ref (b), .ref (Γ.2.2.2.1 li)] M (n) (fun v M' n' => n = n' ∧ (∀ q, q ≠ b + 17 → q ≠ b + 18 → q ≠ b + 19 → M' q = M q) ∧ ∃ (zs1x0 : Int) (fs1x1 : Nat → Int32), v = some (.int (iI ((-1)))) ∧ 0 ≤ zs1x0 ∧ zs1x0 ≤ 40 ∧ M' (b + 17) = some (.inr (2, [.ref (b + 18), .int (iI (zs1x0))])) ∧ M' (b + 18) = some (.inl (Γ.2.2.1 0, 300, .inl (fs1x1))) ∧ M' (b + 19) = some (.inr (2, [.ref (x), .int (iI (0))]))) := by
  refine CT.of (by decide) rfl rfl 0 rfl (Nat.le_of_ble_eq_true rfl) rfl ?_
  refine g_aload_n d_VS_numberOf_0 rfl ?_
  refine g_aload_n d_VS_numberOf_1 rfl ?_
  refine g_get fa_VS_30 d_VS_numberOf_2 p0 rfl ?_
  refine g_aload_n d_VS_numberOf_5 rfl ?_
  refine g_callV2 (ν := k_VS_gather0) ⟨w_339, w_30, w_342, by decide, by decide, by decide +kernel⟩ w_341 w_5 (c_VS_gather0 Γ (b) (rq) (dr) (fp) (tm) (dr) (li) (z) (f) (w) (x) (by first | omega | decide | (have h9 := lenLit_le li; omega)) (by first | omega | decide | (have h9 := lenLit_le li; omega)) p0 p1 p2 p3 p4) d_VS_numberOf_6 p0 rfl rfl ⟨⟨by decide, by decide⟩, ⟨by decide, by decide⟩⟩ (Nat.le_of_ble_eq_true rfl) (fun v1 M1 n1 hQ1 hn1 hd1 => ?_)
  obtain ⟨rfl, hf1, zs1x0, fs1x1, rfl, hb1_zs1x0_0, hb1_zs1x0_1, hw1_0, hw1_1, hw1_2⟩ := hQ1
  refine g_pop d_VS_numberOf_9 rfl ?_
  refine g_aload_n d_VS_numberOf_10 rfl ?_
  refine g_get fa_VS_43 d_VS_numberOf_11 ((hf1 (b) (by omega) (by omega) (by omega)).trans p0) rfl ?_
  refine g_iconst d_VS_numberOf_14 ?_
  refine g_aload_n d_VS_numberOf_15 rfl ?_
  refine g_get fa_VS_43 d_VS_numberOf_16 ((hf1 (b) (by omega) (by omega) (by omega)).trans p0) rfl ?_
  refine g_get fa_VS_59 d_VS_numberOf_19 hw1_2 rfl ?_
  refine g_callV2 (ν := k_Ro_number0) ⟨w_621, w_31, w_486, by decide, by decide, by decide +kernel⟩ w_484 w_485 (c_Ro_number0 Γ (b + 19)  ) d_VS_numberOf_22 hw1_2 rfl rfl ⟨⟨by decide, by decide⟩, ⟨by decide, by decide⟩⟩ (Nat.le_of_ble_eq_true rfl) (fun v2 M2 n2 hQ2 hn2 hd2 => ?_)
  obtain ⟨rfl, hf2, rfl⟩ := hQ2
  refine g_iret d_VS_numberOf_25 rfl ?_ (by decide) (by decide)
  exact ⟨rfl, fun q e0 e1 e2 => ((hf2 q ).trans ((hf1 q (by omega) (by omega) (by omega)).trans rfl)), zs1x0, fs1x1, rfl, hb1_zs1x0_0, hb1_zs1x0_1, ((hf2 (b + 17) ).trans hw1_0), ((hf2 (b + 18) ).trans hw1_1), ((hf2 (b + 19) ).trans hw1_2)⟩
def k_Sh_at0 : MS := ("VaryStore$Shelf", b_Sh_at, 2, (some (.object "VaryStore$Thing")), "at", { frames := 0, cells := 0, slots := 0, locals := 0 }, [])
set_option maxRecDepth 100000 in
set_option maxHeartbeats 4000000 in
theorem c_Sh_at0 (Γ : GE) (s : Nat) (i : Int) (u : Int) {M : HM} {n : Nat} (i0 : -2147483648 ≤ i) (i1 : i < 2147483648) (p0 : M (s) = some (.inr (3, [.ref (s + 1), .int (iI (0)), .int (iI (u))]))) : CT Γ k_Sh_at0 y_Sh_at [.ref (s), .int (iI (i))] M (n) (fun v M' n' => n = n' ∧ (∀ q, M' q = M q) ∧ v = some (.null)) := by
  refine CT.of (by decide) rfl rfl 0 rfl (Nat.le_of_ble_eq_true rfl) rfl ?_
  refine g_iload_n d_Sh_at_0 rfl ?_
  refine g_if_lt (tgt := 21) d_Sh_at_1 (by decide) (fun h1 => ?_) (fun h1 => ?_)
  · skip
    refine g_null d_Sh_at_21 ?_
    refine g_aret (rt := (.object "VaryStore$Thing")) (by first | exact Or.inl ⟨_, rfl⟩ | exact Or.inr ⟨_, rfl⟩) (by first | exact Or.inl rfl | exact Or.inr ⟨_, rfl⟩) d_Sh_at_22 rfl ?_ (by decide) (by decide)
    exact ⟨rfl, fun q  => rfl, rfl⟩
  · skip
    refine g_iload_n d_Sh_at_4 rfl ?_
    refine g_aload_n d_Sh_at_5 rfl ?_
    refine g_get fa_Sh_17 d_Sh_at_6 p0 rfl ?_
    refine g_icmp_ge (tgt := 21) d_Sh_at_9 (by decide) (fun h2 => ?_) (fun h2 => False.elim (by omega))
    refine g_null d_Sh_at_21 ?_
    refine g_aret (rt := (.object "VaryStore$Thing")) (by first | exact Or.inl ⟨_, rfl⟩ | exact Or.inr ⟨_, rfl⟩) (by first | exact Or.inl rfl | exact Or.inr ⟨_, rfl⟩) d_Sh_at_22 rfl ?_ (by decide) (by decide)
    exact ⟨rfl, fun q  => rfl, rfl⟩
def k_VS_theOne0 : MS := ("VaryStore", b_VS_placeOfTheOne, 4, (some .int), "placeOfTheOne", { frames := 0, cells := 0, slots := 0, locals := 0 }, [])
set_option maxRecDepth 100000 in
set_option maxHeartbeats 4000000 in
theorem c_VS_theOne0 (Γ : GE) (b : Nat) (rq : Nat) (dr : Nat) (fp : Int) (tm : Int) (path : Int) (u : Int) {M : HM} {n : Nat}  (p0 : M (b) = some (.inr (0, [.ref (b + 1), .ref (b + 3), .ref (rq), .ref (dr), .int (iI (fp)), .int (iI (tm)), .ref (b + 17), .ref (b + 19), .ref (b + 21), .ref (b + 25), .ref (b + 29)]))) (p1 : M (b + 3) = some (.inr (3, [.ref (b + 4), .int (iI (0)), .int (iI (u))]))) : CT Γ k_VS_theOne0 y_VS_placeOfTheOne [.ref (b), .int (iI (path))] M (n) (fun v M' n' => n = n' ∧ (∀ q, M' q = M q) ∧ v = some (.int (iI ((-1))))) := by
  refine CT.of (by decide) rfl rfl 2 rfl (Nat.le_of_ble_eq_true rfl) rfl ?_
  refine g_aload_n d_VS_placeOfTheOne_0 rfl ?_
  refine g_get fa_VS_19 d_VS_placeOfTheOne_1 p0 rfl ?_
  refine g_get fa_VS_133 d_VS_placeOfTheOne_4 p1 rfl ?_
  refine g_iconst d_VS_placeOfTheOne_7 ?_
  refine g_isub d_VS_placeOfTheOne_8 ?_
  refine g_istore_n d_VS_placeOfTheOne_9 (by decide) rfl ?_
  refine g_iload_n d_VS_placeOfTheOne_10 rfl ?_
  refine g_if_lt (tgt := 51) d_VS_placeOfTheOne_11 (by decide) (fun _ => ?_) (fun h1 => False.elim (by omega))
  refine g_iconst d_VS_placeOfTheOne_51 ?_
  refine g_iret d_VS_placeOfTheOne_52 rfl ?_ (by decide) (by decide)
  exact ⟨rfl, fun q  => rfl, rfl⟩
def k_VS_same0 : MS := ("VaryStore", b_VS_placeOfSame, 4, (some .int), "placeOfSame", { frames := 0, cells := 0, slots := 0, locals := 0 }, [])
set_option maxRecDepth 100000 in
set_option maxHeartbeats 4000000 in
theorem c_VS_same0 (Γ : GE) (b : Nat) (rq : Nat) (dr : Nat) (fp : Int) (tm : Int) (g : Nat) (u : Int) {M : HM} {n : Nat}  (p0 : M (b) = some (.inr (0, [.ref (b + 1), .ref (b + 3), .ref (rq), .ref (dr), .int (iI (fp)), .int (iI (tm)), .ref (b + 17), .ref (b + 19), .ref (b + 21), .ref (b + 25), .ref (b + 29)]))) (p1 : M (b + 3) = some (.inr (3, [.ref (b + 4), .int (iI (0)), .int (iI (u))]))) : CT Γ k_VS_same0 y_VS_placeOfSame [.ref (b), .ref (g)] M (n) (fun v M' n' => n = n' ∧ (∀ q, M' q = M q) ∧ v = some (.int (iI ((-1))))) := by
  refine CT.of (by decide) rfl rfl 2 rfl (Nat.le_of_ble_eq_true rfl) rfl ?_
  refine g_iconst d_VS_placeOfSame_0 ?_
  refine g_istore_n d_VS_placeOfSame_1 (by decide) rfl ?_
  refine g_iload_n d_VS_placeOfSame_2 rfl ?_
  refine g_aload_n d_VS_placeOfSame_3 rfl ?_
  refine g_get fa_VS_19 d_VS_placeOfSame_4 p0 rfl ?_
  refine g_get fa_VS_133 d_VS_placeOfSame_7 p1 rfl ?_
  refine g_icmp_ge (tgt := 67) d_VS_placeOfSame_10 (by decide) (fun _ => ?_) (fun h1 => False.elim (by omega))
  refine g_iconst d_VS_placeOfSame_67 ?_
  refine g_iret d_VS_placeOfSame_68 rfl ?_ (by decide) (by decide)
  exact ⟨rfl, fun q  => rfl, rfl⟩
def k_VS_things0 : MS := ("VaryStore", b_VS_things, 1, (some .int), "things", { frames := 0, cells := 0, slots := 0, locals := 0 }, [])
set_option maxRecDepth 100000 in
set_option maxHeartbeats 4000000 in
theorem c_VS_things0 (Γ : GE) (b : Nat) (rq : Nat) (dr : Nat) (fp : Int) (tm : Int) (u : Int) {M : HM} {n : Nat}  (p0 : M (b) = some (.inr (0, [.ref (b + 1), .ref (b + 3), .ref (rq), .ref (dr), .int (iI (fp)), .int (iI (tm)), .ref (b + 17), .ref (b + 19), .ref (b + 21), .ref (b + 25), .ref (b + 29)]))) (p1 : M (b + 3) = some (.inr (3, [.ref (b + 4), .int (iI (0)), .int (iI (u))]))) : CT Γ k_VS_things0 y_VS_things [.ref (b)] M (n) (fun v M' n' => n = n' ∧ (∀ q, M' q = M q) ∧ v = some (.int (iI (0)))) := by
  refine CT.of (by decide) rfl rfl 0 rfl (Nat.le_of_ble_eq_true rfl) rfl ?_
  refine g_aload_n d_VS_things_0 rfl ?_
  refine g_get fa_VS_19 d_VS_things_1 p0 rfl ?_
  refine g_get fa_VS_133 d_VS_things_4 p1 rfl ?_
  refine g_iret d_VS_things_7 rfl ?_ (by decide) (by decide)
  exact ⟨rfl, fun q  => rfl, rfl⟩
def k_VS_fault : MS := ("VaryStore", b_VS_fault, 1, (some .int), "fault", { frames := 0, cells := 0, slots := 0, locals := 0 }, [])
set_option maxRecDepth 100000 in
set_option maxHeartbeats 4000000 in
theorem c_VS_fault (Γ : GE) (b : Nat) (rq : Nat) (dr : Nat) (fp : Int) (tm : Int) {M : HM} {n : Nat}  (p0 : M (b) = some (.inr (0, [.ref (b + 1), .ref (b + 3), .ref (rq), .ref (dr), .int (iI (fp)), .int (iI (tm)), .ref (b + 17), .ref (b + 19), .ref (b + 21), .ref (b + 25), .ref (b + 29)]))) : CT Γ k_VS_fault y_VS_fault [.ref (b)] M (n) (fun v M' n' => n = n' ∧ (∀ q, M' q = M q) ∧ v = some (.int (iI (fp)))) := by
  refine CT.of (by decide) rfl rfl 0 rfl (Nat.le_of_ble_eq_true rfl) rfl ?_
  refine g_aload_n d_VS_fault_0 rfl ?_
  refine g_get fa_VS_33 d_VS_fault_1 p0 rfl ?_
  refine g_iret d_VS_fault_4 rfl ?_ (by decide) (by decide)
  exact ⟨rfl, fun q  => rfl, rfl⟩
def k_VS_purge0 : MS := ("VaryStore", b_VS_purge, 5, (some .int), "purge", { frames := 0, cells := 0, slots := 0, locals := 0 }, [])
set_option maxRecDepth 100000 in
set_option maxHeartbeats 4000000 in
theorem c_VS_purge0 (Γ : GE) (b : Nat) (rq : Nat) (dr : Nat) (fp : Int) (tm : Int) (path : Int) (u : Int) {M : HM} {n : Nat}  (p0 : M (b) = some (.inr (0, [.ref (b + 1), .ref (b + 3), .ref (rq), .ref (dr), .int (iI (fp)), .int (iI (tm)), .ref (b + 17), .ref (b + 19), .ref (b + 21), .ref (b + 25), .ref (b + 29)]))) (p1 : M (b + 3) = some (.inr (3, [.ref (b + 4), .int (iI (0)), .int (iI (u))]))) : CT Γ k_VS_purge0 y_VS_purge [.ref (b), .int (iI (path))] M (n) (fun v M' n' => n = n' ∧ (∀ q, M' q = M q) ∧ v = some (.int (iI (0)))) := by
  refine CT.of (by decide) rfl rfl 3 rfl (Nat.le_of_ble_eq_true rfl) rfl ?_
  refine g_iconst d_VS_purge_0 ?_
  refine g_istore_n d_VS_purge_1 (by decide) rfl ?_
  refine g_aload_n d_VS_purge_2 rfl ?_
  refine g_get fa_VS_19 d_VS_purge_3 p0 rfl ?_
  refine g_get fa_VS_133 d_VS_purge_6 p1 rfl ?_
  refine g_iconst d_VS_purge_9 ?_
  refine g_isub d_VS_purge_10 ?_
  refine g_istore_n d_VS_purge_11 (by decide) rfl ?_
  refine g_iload_n d_VS_purge_12 rfl ?_
  refine g_if_lt (tgt := 57) d_VS_purge_13 (by decide) (fun _ => ?_) (fun h1 => False.elim (by omega))
  refine g_iload_n d_VS_purge_57 rfl ?_
  refine g_iret d_VS_purge_58 rfl ?_ (by decide) (by decide)
  exact ⟨rfl, fun q  => rfl, rfl⟩
def k_Sh_drop0 : MS := ("VaryStore$Shelf", b_Sh_drop, 2, none, "drop", { frames := 0, cells := 0, slots := 0, locals := 0 }, [])
set_option maxRecDepth 100000 in
set_option maxHeartbeats 4000000 in
theorem c_Sh_drop0 (Γ : GE) (s : Nat) {M : HM} {n : Nat}   : CT Γ k_Sh_drop0 y_Sh_drop [.ref (s), .int (iI ((-1)))] M (n) (fun v M' n' => n = n' ∧ (∀ q, M' q = M q) ∧ v = none) := by
  refine CT.of (by decide) rfl rfl 0 rfl (Nat.le_of_ble_eq_true rfl) rfl ?_
  refine g_iload_n d_Sh_drop_0 rfl ?_
  refine g_if_lt (tgt := 27) d_Sh_drop_1 (by decide) (fun _ => ?_) (fun h1 => False.elim (by omega))
  refine g_vret d_Sh_drop_27 rfl ?_ (by decide) (by decide)
  exact ⟨rfl, fun q  => rfl, rfl⟩
def k_Te_read0 : MS := ("VaryStore$Text", b_Te_read, 4, (some .int), "read", { frames := 2, cells := 0, slots := 0, locals := 45 }, [])
set_option maxRecDepth 100000 in
set_option maxHeartbeats 4000000 in
theorem c_Te_read0 (Γ : GE) (t : Nat) (c : Nat) (f : Nat → Int32) (g : Nat → Int32) (z : Int) (ln : Int) {M : HM} {n : Nat} (htc : t + 6 ≤ c ∨ c + 2 ≤ t) (p0 : M (t) = some (.inr (4, [.ref (t + 1), .ref (t + 3), .ref (t + 4), .ref (t + 5), .int (iI (ln))]))) (p1 : M (t + 1) = some (.inr (2, [.ref (t + 2), .int (iI (z))]))) (p2 : M (t + 1 + 1) = some (.inl (Γ.2.2.1 0, 300, .inl (f)))) (p3 : M (c) = some (.inr (2, [.ref (c + 1), .int (iI (0))]))) (p4 : M (c + 1) = some (.inl (Γ.2.2.1 0, 300, .inl (g)))) : CT Γ k_Te_read0 y_Te_read [.ref (t), .ref (c)] M (n) (fun v M' n' => n = n' ∧ (∀ q, q ≠ t + 1 → q ≠ t → M' q = M q) ∧ v = some (.int (iI ((-1)))) ∧ M' (t + 1) = some (.inr (2, [.ref (t + 2), .int (iI (0))])) ∧ M' (t) = some (.inr (4, [.ref (t + 1), .ref (t + 3), .ref (t + 4), .ref (t + 5), .int (iI (0))]))) := by
  refine CT.of (by decide) rfl rfl 2 rfl (Nat.le_of_ble_eq_true rfl) rfl ?_
  refine g_aload_n d_Te_read_0 rfl ?_
  refine g_get fa_Te_12 d_Te_read_1 p0 rfl ?_
  refine g_aload_n d_Te_read_4 rfl ?_
  refine g_callV1 (ν := k_Ro_copy0) ⟨w_226, w_31, w_229, by decide, by decide, by decide +kernel⟩ w_227 w_228 (c_Ro_copy0 Γ (t + 1) (c) (z) (f) (g) (by omega) p1 p2 p3 p4) d_Te_read_5 p1 rfl rfl ⟨⟨by decide, by decide⟩, ⟨by decide, by decide⟩⟩ (Nat.le_of_ble_eq_true rfl) (fun v1 M1 n1 hQ1 hn1 hd1 => ?_)
  obtain ⟨rfl, hf1, rfl, hw1_0⟩ := hQ1
  refine g_aload_n d_Te_read_8 rfl ?_
  refine g_iconst d_Te_read_9 ?_
  refine g_put fa_Te_28 d_Te_read_10 ((hf1 (t) (by omega)).trans p0) (Nat.le_of_ble_eq_true rfl) rfl rfl rfl ?_
  refine g_iconst d_Te_read_13 ?_
  refine g_istore_n d_Te_read_14 (by decide) rfl ?_
  refine g_iconst d_Te_read_15 ?_
  refine g_istore_n d_Te_read_16 (by decide) rfl ?_
  refine g_iload_n d_Te_read_17 rfl ?_
  refine g_aload_n d_Te_read_18 rfl ?_
  refine g_get fa_Te_12 d_Te_read_19 (hu_same _ _ _) rfl ?_
  refine g_get fa_Te_48 d_Te_read_22 ((hu_ne (by omega)).trans hw1_0) rfl ?_
  refine g_icmp_ge (tgt := 62) d_Te_read_25 (by decide) (fun _ => ?_) (fun h2 => False.elim (by omega))
  refine g_iload_n d_Te_read_62 rfl ?_
  refine g_aload_n d_Te_read_63 rfl ?_
  refine g_get fa_Te_12 d_Te_read_64 (hu_same _ _ _) rfl ?_
  refine g_get fa_Te_48 d_Te_read_67 ((hu_ne (by omega)).trans hw1_0) rfl ?_
  refine g_icmp_ge (tgt := 77) d_Te_read_70 (by decide) (fun _ => ?_) (fun h3 => False.elim (by omega))
  refine g_iconst d_Te_read_77 ?_
  refine g_iret d_Te_read_78 rfl ?_ (by decide) (by decide)
  exact ⟨rfl, fun q e0 e1 => ((hu_ne (by omega)).trans ((hf1 q (by omega)).trans rfl)), rfl, ((hu_ne (by omega)).trans hw1_0), (hu_same _ _ _)⟩
