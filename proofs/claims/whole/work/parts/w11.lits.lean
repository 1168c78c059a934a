theorem d_St_coder_0 : decode b_St_coder 0 = .ok (.getstatic 38, 3) := by decide +kernel
theorem d_St_coder_3 : decode b_St_coder 3 = .ok (.ifCond .eq 10, 3) := by decide +kernel
theorem d_St_coder_6 : decode b_St_coder 6 = .ok (.aload_n 0, 1) := by decide +kernel
theorem d_St_coder_7 : decode b_St_coder 7 = .ok (.getfield 15, 3) := by decide +kernel
theorem d_St_coder_10 : decode b_St_coder 10 = .ok (.goto 4, 3) := by decide +kernel
theorem d_St_coder_14 : decode b_St_coder 14 = .ok (.ireturn, 1) := by decide +kernel
theorem d_St_isLatin1_0 : decode b_St_isLatin1 0 = .ok (.getstatic 38, 3) := by decide +kernel
theorem d_St_isLatin1_3 : decode b_St_isLatin1 3 = .ok (.ifCond .eq 14, 3) := by decide +kernel
theorem d_St_isLatin1_6 : decode b_St_isLatin1 6 = .ok (.aload_n 0, 1) := by decide +kernel
theorem d_St_isLatin1_7 : decode b_St_isLatin1 7 = .ok (.getfield 15, 3) := by decide +kernel
theorem d_St_isLatin1_10 : decode b_St_isLatin1 10 = .ok (.ifCond .ne 7, 3) := by decide +kernel
theorem d_St_isLatin1_13 : decode b_St_isLatin1 13 = .ok (.iconst 1, 1) := by decide +kernel
theorem d_St_isLatin1_14 : decode b_St_isLatin1 14 = .ok (.goto 4, 3) := by decide +kernel
theorem d_St_isLatin1_18 : decode b_St_isLatin1 18 = .ok (.ireturn, 1) := by decide +kernel
theorem d_St_length_0 : decode b_St_length 0 = .ok (.aload_n 0, 1) := by decide +kernel
theorem d_St_length_1 : decode b_St_length 1 = .ok (.getfield 9, 3) := by decide +kernel
theorem d_St_length_4 : decode b_St_length 4 = .ok (.arraylength, 1) := by decide +kernel
theorem d_St_length_5 : decode b_St_length 5 = .ok (.aload_n 0, 1) := by decide +kernel
theorem d_St_length_6 : decode b_St_length 6 = .ok (.invokevirtual 335, 3) := by decide +kernel
theorem d_St_length_9 : decode b_St_length 9 = .ok (.ishr, 1) := by decide +kernel
theorem d_St_length_10 : decode b_St_length 10 = .ok (.ireturn, 1) := by decide +kernel
theorem d_Pr_checkIndex_0 : decode b_Pr_checkIndex 0 = .ok (.iload_n 0, 1) := by decide +kernel
theorem d_Pr_checkIndex_1 : decode b_Pr_checkIndex 1 = .ok (.ifCond .lt 8, 3) := by decide +kernel
theorem d_Pr_checkIndex_4 : decode b_Pr_checkIndex 4 = .ok (.iload_n 0, 1) := by decide +kernel
theorem d_Pr_checkIndex_5 : decode b_Pr_checkIndex 5 = .ok (.iload_n 1, 1) := by decide +kernel
theorem d_Pr_checkIndex_6 : decode b_Pr_checkIndex 6 = .ok (.if_icmp .lt 10, 3) := by decide +kernel
theorem d_Pr_checkIndex_16 : decode b_Pr_checkIndex 16 = .ok (.iload_n 0, 1) := by decide +kernel
theorem d_Pr_checkIndex_17 : decode b_Pr_checkIndex 17 = .ok (.ireturn, 1) := by decide +kernel
theorem d_St_checkIndex_0 : decode b_St_checkIndex 0 = .ok (.iload_n 0, 1) := by decide +kernel
theorem d_St_checkIndex_1 : decode b_St_checkIndex 1 = .ok (.iload_n 1, 1) := by decide +kernel
theorem d_St_checkIndex_2 : decode b_St_checkIndex 2 = .ok (.getstatic 1053, 3) := by decide +kernel
theorem d_St_checkIndex_5 : decode b_St_checkIndex 5 = .ok (.invokestatic 1059, 3) := by decide +kernel
theorem d_St_checkIndex_8 : decode b_St_checkIndex 8 = .ok (.pop, 1) := by decide +kernel
theorem d_St_checkIndex_9 : decode b_St_checkIndex 9 = .ok (.return_, 1) := by decide +kernel
theorem d_L1_charAt_0 : decode b_L1_charAt 0 = .ok (.iload_n 1, 1) := by decide +kernel
theorem d_L1_charAt_1 : decode b_L1_charAt 1 = .ok (.aload_n 0, 1) := by decide +kernel
theorem d_L1_charAt_2 : decode b_L1_charAt 2 = .ok (.arraylength, 1) := by decide +kernel
theorem d_L1_charAt_3 : decode b_L1_charAt 3 = .ok (.invokestatic 9, 3) := by decide +kernel
theorem d_L1_charAt_6 : decode b_L1_charAt 6 = .ok (.aload_n 0, 1) := by decide +kernel
theorem d_L1_charAt_7 : decode b_L1_charAt 7 = .ok (.iload_n 1, 1) := by decide +kernel
theorem d_L1_charAt_8 : decode b_L1_charAt 8 = .ok (.baload, 1) := by decide +kernel
theorem d_L1_charAt_9 : decode b_L1_charAt 9 = .ok (.sipush 255, 3) := by decide +kernel
theorem d_L1_charAt_12 : decode b_L1_charAt 12 = .ok (.iand, 1) := by decide +kernel
theorem d_L1_charAt_13 : decode b_L1_charAt 13 = .ok (.i2c, 1) := by decide +kernel
theorem d_L1_charAt_14 : decode b_L1_charAt 14 = .ok (.ireturn, 1) := by decide +kernel
theorem d_St_charAt_0 : decode b_St_charAt 0 = .ok (.aload_n 0, 1) := by decide +kernel
theorem d_St_charAt_1 : decode b_St_charAt 1 = .ok (.invokevirtual 492, 3) := by decide +kernel
theorem d_St_charAt_4 : decode b_St_charAt 4 = .ok (.ifCond .eq 12, 3) := by decide +kernel
theorem d_St_charAt_7 : decode b_St_charAt 7 = .ok (.aload_n 0, 1) := by decide +kernel
theorem d_St_charAt_8 : decode b_St_charAt 8 = .ok (.getfield 9, 3) := by decide +kernel
theorem d_St_charAt_11 : decode b_St_charAt 11 = .ok (.iload_n 1, 1) := by decide +kernel
theorem d_St_charAt_12 : decode b_St_charAt 12 = .ok (.invokestatic 495, 3) := by decide +kernel
theorem d_St_charAt_15 : decode b_St_charAt 15 = .ok (.ireturn, 1) := by decide +kernel
theorem d_Ro_add_0 : decode b_Ro_add 0 = .ok (.aload_n 0, 1) := by decide +kernel
theorem d_Ro_add_1 : decode b_Ro_add 1 = .ok (.getfield 15, 3) := by decide +kernel
theorem d_Ro_add_4 : decode b_Ro_add 4 = .ok (.aload_n 0, 1) := by decide +kernel
theorem d_Ro_add_5 : decode b_Ro_add 5 = .ok (.getfield 9, 3) := by decide +kernel
theorem d_Ro_add_8 : decode b_Ro_add 8 = .ok (.arraylength, 1) := by decide +kernel
theorem d_Ro_add_9 : decode b_Ro_add 9 = .ok (.if_icmp .ge 23, 3) := by decide +kernel
theorem d_Ro_add_12 : decode b_Ro_add 12 = .ok (.aload_n 0, 1) := by decide +kernel
theorem d_Ro_add_13 : decode b_Ro_add 13 = .ok (.getfield 9, 3) := by decide +kernel
theorem d_Ro_add_16 : decode b_Ro_add 16 = .ok (.aload_n 0, 1) := by decide +kernel
theorem d_Ro_add_17 : decode b_Ro_add 17 = .ok (.getfield 15, 3) := by decide +kernel
theorem d_Ro_add_20 : decode b_Ro_add 20 = .ok (.iload_n 1, 1) := by decide +kernel
theorem d_Ro_add_21 : decode b_Ro_add 21 = .ok (.castore, 1) := by decide +kernel
theorem d_Ro_add_22 : decode b_Ro_add 22 = .ok (.aload_n 0, 1) := by decide +kernel
theorem d_Ro_add_23 : decode b_Ro_add 23 = .ok (.dup, 1) := by decide +kernel
theorem d_Ro_add_24 : decode b_Ro_add 24 = .ok (.getfield 15, 3) := by decide +kernel
theorem d_Ro_add_27 : decode b_Ro_add 27 = .ok (.iconst 1, 1) := by decide +kernel
theorem d_Ro_add_28 : decode b_Ro_add 28 = .ok (.iadd, 1) := by decide +kernel
theorem d_Ro_add_29 : decode b_Ro_add 29 = .ok (.putfield 15, 3) := by decide +kernel
theorem d_Ro_add_32 : decode b_Ro_add 32 = .ok (.return_, 1) := by decide +kernel
theorem d_Ro_set_7 : decode b_Ro_set 7 = .ok (.iload_n 2, 1) := by decide +kernel
theorem d_Ro_set_8 : decode b_Ro_set 8 = .ok (.aload_n 1, 1) := by decide +kernel
theorem d_Ro_set_9 : decode b_Ro_set 9 = .ok (.invokevirtual 25, 3) := by decide +kernel
theorem d_Ro_set_12 : decode b_Ro_set 12 = .ok (.if_icmp .ge 18, 3) := by decide +kernel
theorem d_Ro_set_30 : decode b_Ro_set 30 = .ok (.return_, 1) := by decide +kernel
theorem d_Ro_set_15 : decode b_Ro_set 15 = .ok (.aload_n 0, 1) := by decide +kernel
theorem d_Ro_set_16 : decode b_Ro_set 16 = .ok (.aload_n 1, 1) := by decide +kernel
theorem d_Ro_set_17 : decode b_Ro_set 17 = .ok (.iload_n 2, 1) := by decide +kernel
theorem d_Ro_set_18 : decode b_Ro_set 18 = .ok (.invokevirtual 30, 3) := by decide +kernel
theorem d_Ro_set_21 : decode b_Ro_set 21 = .ok (.invokevirtual 34, 3) := by decide +kernel
theorem d_Ro_set_24 : decode b_Ro_set 24 = .ok (.iinc 2 1, 3) := by decide +kernel
theorem d_Ro_set_27 : decode b_Ro_set 27 = .ok (.goto (-20), 3) := by decide +kernel
theorem d_Ro_set_0 : decode b_Ro_set 0 = .ok (.aload_n 0, 1) := by decide +kernel
theorem d_Ro_set_1 : decode b_Ro_set 1 = .ok (.iconst 0, 1) := by decide +kernel
theorem d_Ro_set_2 : decode b_Ro_set 2 = .ok (.putfield 15, 3) := by decide +kernel
theorem d_Ro_set_5 : decode b_Ro_set 5 = .ok (.iconst 0, 1) := by decide +kernel
theorem d_Ro_set_6 : decode b_Ro_set 6 = .ok (.istore_n 2, 1) := by decide +kernel
set_option maxRecDepth 20000 in
theorem w_355 : Cond.fieldLink "java/lang/String" 38 "java/lang/String" "COMPACT_STRINGS" "Z"  ∈ TB := tb_in 355 (by decide +kernel) (by decide +kernel)
set_option maxRecDepth 20000 in
theorem w_989 : Cond.fieldLink "java/lang/String" 15 "java/lang/String" "coder" "B" ∈ TB := tb_in 989 (by decide +kernel) (by decide +kernel)
set_option maxRecDepth 20000 in
theorem w_988 : Cond.fieldLink "java/lang/String" 9 "java/lang/String" "value" "[B" ∈ TB := tb_in 988 (by decide +kernel) (by decide +kernel)
set_option maxRecDepth 20000 in
theorem w_43 : Cond.initialized "java/lang/String" ∈ TB := tb_in 43 (by decide +kernel) (by decide +kernel)
set_option maxRecDepth 20000 in
theorem w_354 : Cond.code ⟨"java/lang/String", "coder", "()B"⟩ prog_15_method_152_code 1 (some .byte) ∈ TB := tb_in 354 (by decide +kernel) (by decide +kernel)
set_option maxRecDepth 20000 in
theorem w_351 : Cond.methodLink "java/lang/String" 335 ⟨"java/lang/String", "coder", "()B"⟩ ∈ TB := tb_in 351 (by decide +kernel) (by decide +kernel)
set_option maxRecDepth 20000 in
theorem w_352 : Cond.instanceMethod ⟨"java/lang/String", "coder", "()B"⟩ ∈ TB := tb_in 352 (by decide +kernel) (by decide +kernel)
set_option maxRecDepth 20000 in
theorem w_353 : Cond.selects "java/lang/String" ⟨"java/lang/String", "coder", "()B"⟩ ⟨"java/lang/String", "coder", "()B"⟩ ∈ TB := tb_in 353 (by decide +kernel) (by decide +kernel)
set_option maxRecDepth 20000 in
theorem w_371 : Cond.fieldLink "java/lang/String" 1053 "jdk/internal/util/Preconditions" "SIOOBE_FORMATTER" "Ljava/util/function/BiFunction;" ∈ TB := tb_in 371 (by decide +kernel) (by decide +kernel)
set_option maxRecDepth 20000 in
theorem w_45 : Cond.initialized "jdk/internal/util/Preconditions" ∈ TB := tb_in 45 (by decide +kernel) (by decide +kernel)
set_option maxRecDepth 20000 in
theorem w_375 : Cond.code ⟨"jdk/internal/util/Preconditions", "checkIndex", "(IILjava/util/function/BiFunction;)I"⟩ prog_21_method_11_code 3 (some .int) ∈ TB := tb_in 375 (by decide +kernel) (by decide +kernel)
set_option maxRecDepth 20000 in
theorem w_373 : Cond.methodLink "java/lang/String" 1059 ⟨"jdk/internal/util/Preconditions", "checkIndex", "(IILjava/util/function/BiFunction;)I"⟩ ∈ TB := tb_in 373 (by decide +kernel) (by decide +kernel)
set_option maxRecDepth 20000 in
theorem w_374 : Cond.static ⟨"jdk/internal/util/Preconditions", "checkIndex", "(IILjava/util/function/BiFunction;)I"⟩ ∈ TB := tb_in 374 (by decide +kernel) (by decide +kernel)
set_option maxRecDepth 20000 in
theorem w_370 : Cond.code ⟨"java/lang/String", "checkIndex", "(II)V"⟩ prog_15_method_155_code 2 none ∈ TB := tb_in 370 (by decide +kernel) (by decide +kernel)
set_option maxRecDepth 20000 in
theorem w_368 : Cond.methodLink "java/lang/StringLatin1" 9 ⟨"java/lang/String", "checkIndex", "(II)V"⟩ ∈ TB := tb_in 368 (by decide +kernel) (by decide +kernel)
set_option maxRecDepth 20000 in
theorem w_369 : Cond.static ⟨"java/lang/String", "checkIndex", "(II)V"⟩ ∈ TB := tb_in 369 (by decide +kernel) (by decide +kernel)
set_option maxRecDepth 20000 in
theorem w_364 : Cond.code ⟨"java/lang/String", "isLatin1", "()Z"⟩ prog_15_method_154_code 1 (some .boolean) ∈ TB := tb_in 364 (by decide +kernel) (by decide +kernel)
set_option maxRecDepth 20000 in
theorem w_361 : Cond.methodLink "java/lang/String" 492 ⟨"java/lang/String", "isLatin1", "()Z"⟩ ∈ TB := tb_in 361 (by decide +kernel) (by decide +kernel)
set_option maxRecDepth 20000 in
theorem w_362 : Cond.instanceMethod ⟨"java/lang/String", "isLatin1", "()Z"⟩ ∈ TB := tb_in 362 (by decide +kernel) (by decide +kernel)
set_option maxRecDepth 20000 in
theorem w_363 : Cond.selects "java/lang/String" ⟨"java/lang/String", "isLatin1", "()Z"⟩ ⟨"java/lang/String", "isLatin1", "()Z"⟩ ∈ TB := tb_in 363 (by decide +kernel) (by decide +kernel)
set_option maxRecDepth 20000 in
theorem w_44 : Cond.initialized "java/lang/StringLatin1" ∈ TB := tb_in 44 (by decide +kernel) (by decide +kernel)
set_option maxRecDepth 20000 in
theorem w_367 : Cond.code ⟨"java/lang/StringLatin1", "charAt", "([BI)C"⟩ prog_16_method_2_code 2 (some .char) ∈ TB := tb_in 367 (by decide +kernel) (by decide +kernel)
set_option maxRecDepth 20000 in
theorem w_365 : Cond.methodLink "java/lang/String" 495 ⟨"java/lang/StringLatin1", "charAt", "([BI)C"⟩ ∈ TB := tb_in 365 (by decide +kernel) (by decide +kernel)
set_option maxRecDepth 20000 in
theorem w_366 : Cond.static ⟨"java/lang/StringLatin1", "charAt", "([BI)C"⟩ ∈ TB := tb_in 366 (by decide +kernel) (by decide +kernel)
set_option maxRecDepth 20000 in
theorem w_350 : Cond.code ⟨"java/lang/String", "length", "()I"⟩ prog_15_method_54_code 1 (some .int) ∈ TB := tb_in 350 (by decide +kernel) (by decide +kernel)
set_option maxRecDepth 20000 in
theorem w_347 : Cond.methodLink "VaryStore$Row" 25 ⟨"java/lang/String", "length", "()I"⟩ ∈ TB := tb_in 347 (by decide +kernel) (by decide +kernel)
set_option maxRecDepth 20000 in
theorem w_348 : Cond.instanceMethod ⟨"java/lang/String", "length", "()I"⟩ ∈ TB := tb_in 348 (by decide +kernel) (by decide +kernel)
set_option maxRecDepth 20000 in
theorem w_349 : Cond.selects "java/lang/String" ⟨"java/lang/String", "length", "()I"⟩ ⟨"java/lang/String", "length", "()I"⟩ ∈ TB := tb_in 349 (by decide +kernel) (by decide +kernel)
set_option maxRecDepth 20000 in
theorem w_360 : Cond.code ⟨"java/lang/String", "charAt", "(I)C"⟩ prog_15_method_56_code 2 (some .char) ∈ TB := tb_in 360 (by decide +kernel) (by decide +kernel)
set_option maxRecDepth 20000 in
theorem w_357 : Cond.methodLink "VaryStore$Row" 30 ⟨"java/lang/String", "charAt", "(I)C"⟩ ∈ TB := tb_in 357 (by decide +kernel) (by decide +kernel)
set_option maxRecDepth 20000 in
theorem w_358 : Cond.instanceMethod ⟨"java/lang/String", "charAt", "(I)C"⟩ ∈ TB := tb_in 358 (by decide +kernel) (by decide +kernel)
set_option maxRecDepth 20000 in
theorem w_359 : Cond.selects "java/lang/String" ⟨"java/lang/String", "charAt", "(I)C"⟩ ⟨"java/lang/String", "charAt", "(I)C"⟩ ∈ TB := tb_in 359 (by decide +kernel) (by decide +kernel)
set_option maxRecDepth 20000 in
theorem w_185 : Cond.code ⟨"VaryStore$Row", "add", "(C)V"⟩ prog_3_method_3_code 2 none ∈ TB := tb_in 185 (by decide +kernel) (by decide +kernel)
set_option maxRecDepth 20000 in
theorem w_395 : Cond.methodLink "VaryStore$Row" 34 ⟨"VaryStore$Row", "add", "(C)V"⟩ ∈ TB := tb_in 395 (by decide +kernel) (by decide +kernel)
set_option maxRecDepth 20000 in
theorem w_183 : Cond.instanceMethod ⟨"VaryStore$Row", "add", "(C)V"⟩ ∈ TB := tb_in 183 (by decide +kernel) (by decide +kernel)
set_option maxRecDepth 20000 in
theorem w_184 : Cond.selects "VaryStore$Row" ⟨"VaryStore$Row", "add", "(C)V"⟩ ⟨"VaryStore$Row", "add", "(C)V"⟩ ∈ TB := tb_in 184 (by decide +kernel) (by decide +kernel)
def k_St_coder : MS := ("java/lang/String", b_St_coder, 1, (some .byte), "coder", { frames := 0, cells := 0, slots := 0, locals := 0 }, [])
set_option maxRecDepth 100000 in
set_option maxHeartbeats 4000000 in
theorem c_St_coder (Γ : GE) (li : Nat) {M : HM} {n : Nat} (hl : li < nLit)  : CT Γ k_St_coder y_St_coder [.ref (Γ.2.2.2.1 li)] M (n) (fun v M' n' => n = n' ∧ (∀ q, M' q = M q) ∧ v = some (.int (iI (0)))) := by
  refine CT.of (by decide) rfl rfl 0 rfl (Nat.le_of_ble_eq_true rfl) rfl ?_
  refine g_compact w_355 d_St_coder_0 ?_
  refine g_if_eq (tgt := 13) d_St_coder_3 (by decide) (fun h1 => False.elim (by omega)) (fun _ => ?_)
  refine g_aload_n d_St_coder_6 rfl ?_
  refine g_litCoder hl w_989 d_St_coder_7 ?_
  refine g_goto (tgt := 14) d_St_coder_10 (by decide) ?_
  refine g_zret (ty := .byte) (by first | rfl | exact nar_char (by omega)) d_St_coder_14 rfl ?_ (by decide) (by decide)
  exact ⟨rfl, fun q  => rfl, rfl⟩
def k_St_isLatin1 : MS := ("java/lang/String", b_St_isLatin1, 1, (some .boolean), "isLatin1", { frames := 0, cells := 0, slots := 0, locals := 0 }, [])
set_option maxRecDepth 100000 in
set_option maxHeartbeats 4000000 in
theorem c_St_isLatin1 (Γ : GE) (li : Nat) {M : HM} {n : Nat} (hl : li < nLit)  : CT Γ k_St_isLatin1 y_St_isLatin1 [.ref (Γ.2.2.2.1 li)] M (n) (fun v M' n' => n = n' ∧ (∀ q, M' q = M q) ∧ v = some (.int (iI (1)))) := by
  refine CT.of (by decide) rfl rfl 0 rfl (Nat.le_of_ble_eq_true rfl) rfl ?_
  refine g_compact w_355 d_St_isLatin1_0 ?_
  refine g_if_eq (tgt := 17) d_St_isLatin1_3 (by decide) (fun h1 => False.elim (by omega)) (fun _ => ?_)
  refine g_aload_n d_St_isLatin1_6 rfl ?_
  refine g_litCoder hl w_989 d_St_isLatin1_7 ?_
  refine g_if_ne (tgt := 17) d_St_isLatin1_10 (by decide) (fun h2 => False.elim (by omega)) (fun _ => ?_)
  refine g_iconst d_St_isLatin1_13 ?_
  refine g_goto (tgt := 18) d_St_isLatin1_14 (by decide) ?_
  refine g_zret (ty := .boolean) (by first | rfl | exact nar_char (by omega)) d_St_isLatin1_18 rfl ?_ (by decide) (by decide)
  exact ⟨rfl, fun q  => rfl, rfl⟩
def k_St_length : MS := ("java/lang/String", b_St_length, 1, (some .int), "length", { frames := 1, cells := 0, slots := 0, locals := 20 }, [])
set_option maxRecDepth 100000 in
set_option maxHeartbeats 4000000 in
theorem c_St_length (Γ : GE) (li : Nat) {M : HM} {n : Nat} (hl : li < nLit)  : CT Γ k_St_length y_St_length [.ref (Γ.2.2.2.1 li)] M (n) (fun v M' n' => n = n' ∧ (∀ q, M' q = M q) ∧ v = some (.int (iI ((lenLit.getD li 0 : Nat))))) := by
  refine CT.of (by decide) rfl rfl 0 rfl (Nat.le_of_ble_eq_true rfl) rfl ?_
  refine g_aload_n d_St_length_0 rfl ?_
  refine g_litValue hl w_988 d_St_length_1 ?_
  refine g_litLen hl d_St_length_4 ?_
  refine g_aload_n d_St_length_5 rfl ?_
  refine g_callL0 (ν := k_St_coder) hl ⟨w_351, w_43, w_354, by decide, by decide, by decide +kernel⟩ w_352 w_353 rfl (c_St_coder Γ (li) (by first | omega | decide | (have h9 := lenLit_le li; omega)) ) d_St_length_6 ⟨⟨by decide, by decide⟩, ⟨by decide, by decide⟩⟩ (Nat.le_of_ble_eq_true rfl) (fun v1 M1 n1 hQ1 hn1 hd1 => ?_)
  obtain ⟨rfl, hf1, rfl⟩ := hQ1
  refine g_ishr d_St_length_9 (shr0 _) ?_
  refine g_iret d_St_length_10 rfl ?_ (by decide) (by decide)
  exact ⟨rfl, fun q  => ((hf1 q ).trans rfl), rfl⟩
def k_Pr_ci0 : MS := ("jdk/internal/util/Preconditions", b_Pr_checkIndex, 3, (some .int), "checkIndex", { frames := 0, cells := 0, slots := 0, locals := 0 }, [])
set_option maxRecDepth 100000 in
set_option maxHeartbeats 4000000 in
theorem c_Pr_ci0 (Γ : GE) (j : Int) (m : Int) {M : HM} {n : Nat} (j0 : 0 ≤ j) (j1 : j < m) (j2 : m ≤ 40)  : CT Γ k_Pr_ci0 y_Pr_checkIndex [.int (iI (j)), .int (iI (m)), .null] M (n) (fun v M' n' => n = n' ∧ (∀ q, M' q = M q) ∧ v = some (.int (iI (j)))) := by
  refine CT.of (by decide) rfl rfl 0 rfl (Nat.le_of_ble_eq_true rfl) rfl ?_
  refine g_iload_n d_Pr_checkIndex_0 rfl ?_
  refine g_if_lt (tgt := 9) d_Pr_checkIndex_1 (by decide) (fun h1 => False.elim (by omega)) (fun h1 => ?_)
  refine g_iload_n d_Pr_checkIndex_4 rfl ?_
  refine g_iload_n d_Pr_checkIndex_5 rfl ?_
  refine g_icmp_lt (tgt := 16) d_Pr_checkIndex_6 (by decide) (fun h2 => ?_) (fun h2 => False.elim (by omega))
  refine g_iload_n d_Pr_checkIndex_16 rfl ?_
  refine g_iret d_Pr_checkIndex_17 rfl ?_ (by decide) (by decide)
  exact ⟨rfl, fun q  => rfl, rfl⟩
def k_Pr_ci1 : MS := ("jdk/internal/util/Preconditions", b_Pr_checkIndex, 3, (some .int), "checkIndex", { frames := 0, cells := 0, slots := 0, locals := 0 }, [])
set_option maxRecDepth 100000 in
set_option maxHeartbeats 4000000 in
theorem c_Pr_ci1 (Γ : GE) (j : Int) (m : Int) (q : Nat) {M : HM} {n : Nat} (j0 : 0 ≤ j) (j1 : j < m) (j2 : m ≤ 40)  : CT Γ k_Pr_ci1 y_Pr_checkIndex [.int (iI (j)), .int (iI (m)), .ref (q)] M (n) (fun v M' n' => n = n' ∧ (∀ q, M' q = M q) ∧ v = some (.int (iI (j)))) := by
  refine CT.of (by decide) rfl rfl 0 rfl (Nat.le_of_ble_eq_true rfl) rfl ?_
  refine g_iload_n d_Pr_checkIndex_0 rfl ?_
  refine g_if_lt (tgt := 9) d_Pr_checkIndex_1 (by decide) (fun h1 => False.elim (by omega)) (fun h1 => ?_)
  refine g_iload_n d_Pr_checkIndex_4 rfl ?_
  refine g_iload_n d_Pr_checkIndex_5 rfl ?_
  refine g_icmp_lt (tgt := 16) d_Pr_checkIndex_6 (by decide) (fun h2 => ?_) (fun h2 => False.elim (by omega))
  refine g_iload_n d_Pr_checkIndex_16 rfl ?_
  refine g_iret d_Pr_checkIndex_17 rfl ?_ (by decide) (by decide)
  exact ⟨rfl, fun q  => rfl, rfl⟩
def k_St_checkIndex : MS := ("java/lang/String", b_St_checkIndex, 2, none, "checkIndex", { frames := 1, cells := 0, slots := 0, locals := 22 }, [])
set_option maxRecDepth 100000 in
set_option maxHeartbeats 4000000 in
theorem c_St_checkIndex (Γ : GE) (j : Int) (m : Int) {M : HM} {n : Nat} (j0 : 0 ≤ j) (j1 : j < m) (j2 : m ≤ 40)  : CT Γ k_St_checkIndex y_St_checkIndex [.int (iI (j)), .int (iI (m))] M (n) (fun v M' n' => n = n' ∧ (∀ q, M' q = M q) ∧ v = none) := by
  refine CT.of (by decide) rfl rfl 0 rfl (Nat.le_of_ble_eq_true rfl) rfl ?_
  refine g_iload_n d_St_checkIndex_0 rfl ?_
  refine g_iload_n d_St_checkIndex_1 rfl ?_
  refine g_siob w_371 d_St_checkIndex_2 ?_ (fun q1 => ?_)
  · skip
    refine g_callS3 (ν := k_Pr_ci0) ⟨w_373, w_45, w_375, by decide, by decide, by decide +kernel⟩ w_374 (c_Pr_ci0 Γ (j) (m) (by omega) (by omega) (by omega) ) d_St_checkIndex_5 ⟨⟨by decide, by decide⟩, ⟨by decide, by decide⟩⟩ (Nat.le_of_ble_eq_true rfl) (fun v2 M2 n2 hQ2 hn2 hd2 => ?_)
    obtain ⟨rfl, hf2, rfl⟩ := hQ2
    refine g_pop d_St_checkIndex_8 rfl ?_
    refine g_vret d_St_checkIndex_9 rfl ?_ (by decide) (by decide)
    exact ⟨rfl, fun q  => ((hf2 q ).trans rfl), rfl⟩
  · skip
    refine g_callS3 (ν := k_Pr_ci1) ⟨w_373, w_45, w_375, by decide, by decide, by decide +kernel⟩ w_374 (c_Pr_ci1 Γ (j) (m) (q1) (by omega) (by omega) (by omega) ) d_St_checkIndex_5 ⟨⟨by decide, by decide⟩, ⟨by decide, by decide⟩⟩ (Nat.le_of_ble_eq_true rfl) (fun v3 M3 n3 hQ3 hn3 hd3 => ?_)
    obtain ⟨rfl, hf3, rfl⟩ := hQ3
    refine g_pop d_St_checkIndex_8 rfl ?_
    refine g_vret d_St_checkIndex_9 rfl ?_ (by decide) (by decide)
    exact ⟨rfl, fun q  => ((hf3 q ).trans rfl), rfl⟩
def k_L1_charAt : MS := ("java/lang/StringLatin1", b_L1_charAt, 2, (some .char), "charAt", { frames := 2, cells := 0, slots := 0, locals := 43 }, [])
set_option maxRecDepth 100000 in
set_option maxHeartbeats 4000000 in
theorem c_L1_charAt (Γ : GE) (li : Nat) (j : Int) {M : HM} {n : Nat} (hl : li < nLit) (j0 : 0 ≤ j) (j1 : j < (lenLit.getD li 0 : Nat)) (j2 : (lenLit.getD li 0 : Nat) ≤ 40)  : CT Γ k_L1_charAt y_L1_charAt [.ref (Γ.2.2.2.2 li), .int (iI (j))] M (n) (fun v M' n' => n = n' ∧ (∀ q, M' q = M q) ∧ ∃ (j2 : Nat), v = some (.int (iI ((j2 : Nat)))) ∧ j2 < 256) := by
  refine CT.of (by decide) rfl rfl 0 rfl (Nat.le_of_ble_eq_true rfl) rfl ?_
  refine g_iload_n d_L1_charAt_0 rfl ?_
  refine g_aload_n d_L1_charAt_1 rfl ?_
  refine g_litLen hl d_L1_charAt_2 ?_
  refine g_callS2 (ν := k_St_checkIndex) ⟨w_368, w_43, w_370, by decide, by decide, by decide +kernel⟩ w_369 (c_St_checkIndex Γ (j) ((lenLit.getD li 0 : Nat)) (by omega) (by omega) (by omega) ) d_L1_charAt_3 ⟨⟨by decide, by decide⟩, ⟨by decide, by decide⟩⟩ (Nat.le_of_ble_eq_true rfl) (fun v1 M1 n1 hQ1 hn1 hd1 => ?_)
  obtain ⟨rfl, hf1, rfl⟩ := hQ1
  refine g_aload_n d_L1_charAt_6 rfl ?_
  refine g_iload_n d_L1_charAt_7 rfl ?_
  refine g_litAt hl d_L1_charAt_8 (by omega) (by omega) (by have h9 := lenLit_le li; omega) (iI_of _).symm ?_
  refine g_sipush d_L1_charAt_9 (by decide) ?_
  obtain ⟨j2, hj2, ej2⟩ := and255 (iI (((bytLit.getD li []).getD (j : Int).toNat 0).toInt))
  refine g_iand d_L1_charAt_12 ej2 ?_
  refine g_i2c d_L1_charAt_13 (i2c_nat (by omega)) ?_
  refine g_zret (ty := .char) (by first | rfl | exact nar_char (by omega)) d_L1_charAt_14 rfl ?_ (by decide) (by decide)
  exact ⟨rfl, fun q  => ((hf1 q ).trans rfl), j2, rfl, hj2⟩
def k_St_charAt : MS := ("java/lang/String", b_St_charAt, 2, (some .char), "charAt", { frames := 3, cells := 0, slots := 0, locals := 64 }, [])
set_option maxRecDepth 100000 in
set_option maxHeartbeats 4000000 in
theorem c_St_charAt (Γ : GE) (li : Nat) (j : Int) {M : HM} {n : Nat} (hl : li < nLit) (j0 : 0 ≤ j) (j1 : j < (lenLit.getD li 0 : Nat)) (j2 : (lenLit.getD li 0 : Nat) ≤ 40)  : CT Γ k_St_charAt y_St_charAt [.ref (Γ.2.2.2.1 li), .int (iI (j))] M (n) (fun v M' n' => n = n' ∧ (∀ q, M' q = M q) ∧ ∃ (j3x0 : Nat), v = some (.int (iI ((j3x0 : Nat)))) ∧ j3x0 < 256) := by
  refine CT.of (by decide) rfl rfl 0 rfl (Nat.le_of_ble_eq_true rfl) rfl ?_
  refine g_aload_n d_St_charAt_0 rfl ?_
  refine g_callL0 (ν := k_St_isLatin1) hl ⟨w_361, w_43, w_364, by decide, by decide, by decide +kernel⟩ w_362 w_363 rfl (c_St_isLatin1 Γ (li) (by first | omega | decide | (have h9 := lenLit_le li; omega)) ) d_St_charAt_1 ⟨⟨by decide, by decide⟩, ⟨by decide, by decide⟩⟩ (Nat.le_of_ble_eq_true rfl) (fun v1 M1 n1 hQ1 hn1 hd1 => ?_)
  obtain ⟨rfl, hf1, rfl⟩ := hQ1
  refine g_if_eq (tgt := 16) d_St_charAt_4 (by decide) (fun h2 => False.elim (by omega)) (fun _ => ?_)
  refine g_aload_n d_St_charAt_7 rfl ?_
  refine g_litValue hl w_988 d_St_charAt_8 ?_
  refine g_iload_n d_St_charAt_11 rfl ?_
  refine g_callS2 (ν := k_L1_charAt) ⟨w_365, w_44, w_367, by decide, by decide, by decide +kernel⟩ w_366 (c_L1_charAt Γ (li) (j) (by first | omega | decide | (have h9 := lenLit_le li; omega)) (by first | omega | decide | (have h9 := lenLit_le li; omega)) (by first | omega | decide | (have h9 := lenLit_le li; omega)) (by first | omega | decide | (have h9 := lenLit_le li; omega)) ) d_St_charAt_12 ⟨⟨by decide, by decide⟩, ⟨by decide, by decide⟩⟩ (Nat.le_of_ble_eq_true rfl) (fun v3 M3 n3 hQ3 hn3 hd3 => ?_)
  obtain ⟨rfl, hf3, j3x0, rfl, hb3_j3x0_0⟩ := hQ3
  refine g_zret (ty := .char) (by first | rfl | exact nar_char (by omega)) d_St_charAt_15 rfl ?_ (by decide) (by decide)
  exact ⟨rfl, fun q  => ((hf3 q ).trans ((hf1 q ).trans rfl)), j3x0, rfl, hb3_j3x0_0⟩
def k_Ro_add : MS := ("VaryStore$Row", b_Ro_add, 2, none, "add", { frames := 0, cells := 0, slots := 0, locals := 0 }, [])
set_option maxRecDepth 100000 in
set_option maxHeartbeats 4000000 in
theorem c_Ro_add (Γ : GE) (a : Nat) (z : Int) (c : Int) (f : Nat → Int32) {M : HM} {n : Nat} (z0 : 0 ≤ z) (z1 : z < 300) (c0 : 0 ≤ c) (c1 : c < 65536) (p0 : M (a) = some (.inr (2, [.ref (a + 1), .int (iI (z))]))) (p1 : M (a + 1) = some (.inl (Γ.2.2.1 0, 300, .inl (f)))) : CT Γ k_Ro_add y_Ro_add [.ref (a), .int (iI (c))] M (n) (fun v M' n' => n = n' ∧ (∀ q, q ≠ a + 1 → q ≠ a → M' q = M q) ∧ v = none ∧ M' (a + 1) = some (.inl (Γ.2.2.1 0, 300, .inl (upd (f) (z : Int).toNat (iI (c))))) ∧ M' (a) = some (.inr (2, [.ref (a + 1), .int (iI ((z + 1)))]))) := by
  refine CT.of (by decide) rfl rfl 0 rfl (Nat.le_of_ble_eq_true rfl) rfl ?_
  refine g_aload_n d_Ro_add_0 rfl ?_
  refine g_get fa_Ro_15 d_Ro_add_1 p0 rfl ?_
  refine g_aload_n d_Ro_add_4 rfl ?_
  refine g_get fa_Ro_9 d_Ro_add_5 p0 rfl ?_
  refine g_alenN 0 rfl d_Ro_add_8 p1 ?_
  refine g_icmp_ge (tgt := 32) d_Ro_add_9 (by decide) (fun h1 => False.elim (by omega)) (fun h1 => ?_)
  refine g_aload_n d_Ro_add_12 rfl ?_
  refine g_get fa_Ro_9 d_Ro_add_13 p0 rfl ?_
  refine g_aload_n d_Ro_add_16 rfl ?_
  refine g_get fa_Ro_15 d_Ro_add_17 p0 rfl ?_
  refine g_iload_n d_Ro_add_20 rfl ?_
  refine g_cast d_Ro_add_21 p1 (by omega) (by omega) (by omega) (nar_charZ (by omega) (by omega)) ?_
  refine g_aload_n d_Ro_add_22 rfl ?_
  refine g_dup d_Ro_add_23 rfl ?_
  refine g_get fa_Ro_15 d_Ro_add_24 ((hu_ne (by omega)).trans p0) rfl ?_
  refine g_iconst d_Ro_add_27 ?_
  refine g_iadd d_Ro_add_28 ?_
  refine g_put fa_Ro_15 d_Ro_add_29 ((hu_ne (by omega)).trans p0) (Nat.le_of_ble_eq_true rfl) rfl rfl rfl ?_
  refine g_vret d_Ro_add_32 rfl ?_ (by decide) (by decide)
  exact ⟨rfl, fun q e0 e1 => ((hu_ne (by omega)).trans ((hu_ne (by omega)).trans rfl)), rfl, ((hu_ne (by omega)).trans (hu_same _ _ _)), (hu_same _ _ _)⟩
def Q_Ro_set (Γ : GE) (M : HM) (n a : Nat) : Option Value → HM → Nat → Prop := fun v M' n' => n = n' ∧ (∀ q, q ≠ a → q ≠ a + 1 → M' q = M q) ∧ ∃ (zs : Int) (fs : Nat → Int32), v = none ∧ 0 ≤ zs ∧ zs ≤ 40 ∧ M' (a) = some (.inr (2, [.ref (a + 1), .int (iI (zs))])) ∧ M' (a + 1) = some (.inl (Γ.2.2.1 0, 300, .inl (fs)))
def k_Ro_set : MS := ("VaryStore$Row", b_Ro_set, 3, none, "set", { frames := 4, cells := 0, slots := 0, locals := 85 }, [])
set_option maxRecDepth 100000 in
set_option maxHeartbeats 4000000 in
theorem c_Ro_set (Γ : GE) (a : Nat) (li : Nat) (z : Int) (f : Nat → Int32) {M : HM} {n : Nat} (hl : li < nLit) (p0 : M (a) = some (.inr (2, [.ref (a + 1), .int (iI (z))]))) (p1 : M (a + 1) = some (.inl (Γ.2.2.1 0, 300, .inl (f)))) : CT Γ k_Ro_set y_Ro_set [.ref (a), .ref (Γ.2.2.2.1 li)] M (n) (Q_Ro_set Γ M n a) := by
  refine CT.of (by decide) rfl rfl 1 rfl (Nat.le_of_ble_eq_true rfl) rfl ?_
  have loop : ∀ (k : Nat) (i : Int) (M1 : HM) (f1 : Nat → Int32), 0 ≤ i → i ≤ (lenLit.getD li 0 : Nat) → ((lenLit.getD li 0 : Nat) : Int) - i < k → (∀ q, q ≠ a → q ≠ a + 1 → M1 q = M q) → M1 (a) = some (.inr (2, [.ref (a + 1), .int (iI (i))])) → M1 (a + 1) = some (.inl (Γ.2.2.1 0, 300, .inl (f1))) → G Γ k_Ro_set (AA M n) (EM Γ k_Ro_set (AA M n) (Q_Ro_set Γ M n a)) 0 0 M1 n 7 [some (.ref a), some (.ref (Γ.2.2.2.1 li)), some (.int (iI i))] [] := by
    have hL := lenLit_le li
    intro k
    induction k with
    | zero => intro i M1 f1 i0 i1 i2; omega
    | succ k ih =>
      intro i M1 f1 i0 i1 i2 hfr q0 q1
      refine g_iload_n d_Ro_set_7 rfl ?_
      refine g_aload_n d_Ro_set_8 rfl ?_
      refine g_callL0 (ν := k_St_length) hl ⟨w_347, w_43, w_350, by decide, by decide, by decide +kernel⟩ w_348 w_349 rfl (c_St_length Γ (li) (by first | omega | decide | (have h9 := lenLit_le li; omega)) ) d_Ro_set_9 ⟨⟨by decide, by decide⟩, ⟨by decide, by decide⟩⟩ (Nat.le_of_ble_eq_true rfl) (fun v1 M1 n1 hQ1 hn1 hd1 => ?_)
      obtain ⟨rfl, hf1, rfl⟩ := hQ1
      refine g_icmp_ge (tgt := 30) d_Ro_set_12 (by decide) (fun h2 => ?_) (fun h2 => ?_)
      · skip
        refine g_vret d_Ro_set_30 rfl ?_ (by decide) (by decide)
        exact ⟨rfl, fun q e0 e1 => ((hf1 q ).trans (hfr q e0 e1)), _, _, rfl, by omega, by omega, ((hf1 (a) ).trans q0), ((hf1 (a + 1) ).trans q1)⟩
      · skip
        refine g_aload_n d_Ro_set_15 rfl ?_
        refine g_aload_n d_Ro_set_16 rfl ?_
        refine g_iload_n d_Ro_set_17 rfl ?_
        refine g_callL1 (ν := k_St_charAt) hl ⟨w_357, w_43, w_360, by decide, by decide, by decide +kernel⟩ w_358 w_359 rfl (c_St_charAt Γ (li) (i) (by first | omega | decide | (have h9 := lenLit_le li; omega)) (by first | omega | decide | (have h9 := lenLit_le li; omega)) (by first | omega | decide | (have h9 := lenLit_le li; omega)) (by first | omega | decide | (have h9 := lenLit_le li; omega)) ) d_Ro_set_18 ⟨⟨by decide, by decide⟩, ⟨by decide, by decide⟩⟩ (Nat.le_of_ble_eq_true rfl) (fun v3 M3 n3 hQ3 hn3 hd3 => ?_)
        obtain ⟨rfl, hf3, j3x0, rfl, hb3_j3x0_0⟩ := hQ3
        refine g_callV1 (ν := k_Ro_add) ⟨w_395, w_31, w_185, by decide, by decide, by decide +kernel⟩ w_183 w_184 (c_Ro_add Γ (a) (i) ((j3x0 : Nat)) (f1) (by omega) (by omega) (by omega) (by omega) ((hf3 (a) ).trans ((hf1 (a) ).trans q0)) ((hf3 (a + 1) ).trans ((hf1 (a + 1) ).trans q1))) d_Ro_set_21 ((hf3 (a) ).trans ((hf1 (a) ).trans q0)) rfl rfl ⟨⟨by decide, by decide⟩, ⟨by decide, by decide⟩⟩ (Nat.le_of_ble_eq_true rfl) (fun v4 M4 n4 hQ4 hn4 hd4 => ?_)
        obtain ⟨rfl, hf4, rfl, hw4_0, hw4_1⟩ := hQ4
        refine g_iinc d_Ro_set_24 rfl (by decide) rfl ?_
        refine g_goto (tgt := 7) d_Ro_set_27 (by decide) ?_
        exact ih _ _ _ (by omega) (by omega) (by omega) (fun q e0 e1 => ((hf4 q (by omega) (by omega)).trans ((hf3 q ).trans ((hf1 q ).trans (hfr q e0 e1))))) hw4_1 hw4_0
  refine g_aload_n d_Ro_set_0 rfl ?_
  refine g_iconst d_Ro_set_1 ?_
  refine g_put fa_Ro_15 d_Ro_set_2 p0 (Nat.le_of_ble_eq_true rfl) rfl rfl rfl ?_
  refine g_iconst d_Ro_set_5 ?_
  refine g_istore_n d_Ro_set_6 (by decide) rfl ?_
  exact loop 100 0 _ _ (by omega) (by omega) (by have h9 := lenLit_le li; omega) (fun q e0 e1 => ((hu_ne (by omega)).trans rfl)) (hu_same _ _ _) ((hu_ne (by omega)).trans p1)
