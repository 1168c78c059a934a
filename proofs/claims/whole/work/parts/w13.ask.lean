theorem d_VS_readTape_0 : decode b_VS_readTape 0 = .ok (.aload_n 0, 1) := by decide +kernel
theorem d_VS_readTape_1 : decode b_VS_readTape 1 = .ok (.aload_n 0, 1) := by decide +kernel
theorem d_VS_readTape_2 : decode b_VS_readTape 2 = .ok (.getfield 30, 3) := by decide +kernel
theorem d_VS_readTape_5 : decode b_VS_readTape 5 = .ok (.aload_n 0, 1) := by decide +kernel
theorem d_VS_readTape_6 : decode b_VS_readTape 6 = .ok (.getfield 12, 3) := by decide +kernel
theorem d_VS_readTape_9 : decode b_VS_readTape 9 = .ok (.invokevirtual 201, 3) := by decide +kernel
theorem d_VS_readTape_12 : decode b_VS_readTape 12 = .ok (.putfield 33, 3) := by decide +kernel
theorem d_VS_readTape_15 : decode b_VS_readTape 15 = .ok (.aload_n 0, 1) := by decide +kernel
theorem d_VS_readTape_16 : decode b_VS_readTape 16 = .ok (.getfield 12, 3) := by decide +kernel
theorem d_VS_readTape_19 : decode b_VS_readTape 19 = .ok (.invokevirtual 205, 3) := by decide +kernel
theorem d_VS_readTape_22 : decode b_VS_readTape 22 = .ok (.aload_n 0, 1) := by decide +kernel
theorem d_VS_readTape_23 : decode b_VS_readTape 23 = .ok (.getfield 33, 3) := by decide +kernel
theorem d_VS_readTape_26 : decode b_VS_readTape 26 = .ok (.iconst (-1), 1) := by decide +kernel
theorem d_VS_readTape_27 : decode b_VS_readTape 27 = .ok (.if_icmp .eq 13, 3) := by decide +kernel
theorem d_VS_readTape_40 : decode b_VS_readTape 40 = .ok (.iload_n 1, 1) := by decide +kernel
theorem d_VS_readTape_41 : decode b_VS_readTape 41 = .ok (.ifCond .lt 9, 3) := by decide +kernel
theorem d_VS_readTape_50 : decode b_VS_readTape 50 = .ok (.new 163, 3) := by decide +kernel
theorem d_VS_readTape_53 : decode b_VS_readTape 53 = .ok (.dup, 1) := by decide +kernel
theorem d_VS_readTape_54 : decode b_VS_readTape 54 = .ok (.ldc 210, 2) := by decide +kernel
theorem d_VS_readTape_56 : decode b_VS_readTape 56 = .ok (.invokespecial 167, 3) := by decide +kernel
theorem d_VS_readTape_59 : decode b_VS_readTape 59 = .ok (.athrow, 1) := by decide +kernel
theorem d_VS_readTape_44 : decode b_VS_readTape 44 = .ok (.iload_n 1, 1) := by decide +kernel
theorem d_VS_readTape_45 : decode b_VS_readTape 45 = .ok (.bipush 16, 2) := by decide +kernel
theorem d_VS_readTape_47 : decode b_VS_readTape 47 = .ok (.if_icmp .lt 13, 3) := by decide +kernel
theorem d_VS_readTape_60 : decode b_VS_readTape 60 = .ok (.return_, 1) := by decide +kernel
theorem d_VS_ask_0 : decode b_VS_ask 0 = .ok (.aload_n 0, 1) := by decide +kernel
theorem d_VS_ask_1 : decode b_VS_ask 1 = .ok (.iload_n 1, 1) := by decide +kernel
theorem d_VS_ask_2 : decode b_VS_ask 2 = .ok (.invokevirtual 74, 3) := by decide +kernel
theorem d_VS_ask_5 : decode b_VS_ask 5 = .ok (.aload_n 0, 1) := by decide +kernel
theorem d_VS_ask_6 : decode b_VS_ask 6 = .ok (.getfield 26, 3) := by decide +kernel
theorem d_VS_ask_9 : decode b_VS_ask 9 = .ok (.astore_n 2, 1) := by decide +kernel
theorem d_VS_ask_10 : decode b_VS_ask 10 = .ok (.aload_n 0, 1) := by decide +kernel
theorem d_VS_ask_11 : decode b_VS_ask 11 = .ok (.aload_n 0, 1) := by decide +kernel
theorem d_VS_ask_12 : decode b_VS_ask 12 = .ok (.getfield 30, 3) := by decide +kernel
theorem d_VS_ask_15 : decode b_VS_ask 15 = .ok (.putfield 26, 3) := by decide +kernel
theorem d_VS_ask_18 : decode b_VS_ask 18 = .ok (.aload_n 0, 1) := by decide +kernel
theorem d_VS_ask_19 : decode b_VS_ask 19 = .ok (.aload_n 2, 1) := by decide +kernel
theorem d_VS_ask_20 : decode b_VS_ask 20 = .ok (.putfield 30, 3) := by decide +kernel
theorem d_VS_ask_23 : decode b_VS_ask 23 = .ok (.aload_n 0, 1) := by decide +kernel
theorem d_VS_ask_24 : decode b_VS_ask 24 = .ok (.aload_n 0, 1) := by decide +kernel
theorem d_VS_ask_25 : decode b_VS_ask 25 = .ok (.getfield 26, 3) := by decide +kernel
theorem d_VS_ask_28 : decode b_VS_ask 28 = .ok (.ldc 78, 2) := by decide +kernel
theorem d_VS_ask_30 : decode b_VS_ask 30 = .ok (.aload_n 0, 1) := by decide +kernel
theorem d_VS_ask_31 : decode b_VS_ask 31 = .ok (.getfield 49, 3) := by decide +kernel
theorem d_VS_ask_34 : decode b_VS_ask 34 = .ok (.invokevirtual 80, 3) := by decide +kernel
theorem d_VS_ask_37 : decode b_VS_ask 37 = .ok (.pop, 1) := by decide +kernel
theorem d_VS_ask_38 : decode b_VS_ask 38 = .ok (.aload_n 0, 1) := by decide +kernel
theorem d_VS_ask_39 : decode b_VS_ask 39 = .ok (.getfield 19, 3) := by decide +kernel
theorem d_VS_ask_42 : decode b_VS_ask 42 = .ok (.aload_n 0, 1) := by decide +kernel
theorem d_VS_ask_43 : decode b_VS_ask 43 = .ok (.iload_n 1, 1) := by decide +kernel
theorem d_VS_ask_44 : decode b_VS_ask 44 = .ok (.invokevirtual 84, 3) := by decide +kernel
theorem d_VS_ask_47 : decode b_VS_ask 47 = .ok (.invokevirtual 88, 3) := by decide +kernel
theorem d_VS_ask_50 : decode b_VS_ask 50 = .ok (.astore_n 3, 1) := by decide +kernel
theorem d_VS_ask_51 : decode b_VS_ask 51 = .ok (.aload_n 3, 1) := by decide +kernel
theorem d_VS_ask_52 : decode b_VS_ask 52 = .ok (.ifnonnull 7, 3) := by decide +kernel
theorem d_VS_ask_55 : decode b_VS_ask 55 = .ok (.iconst 0, 1) := by decide +kernel
theorem d_VS_ask_56 : decode b_VS_ask 56 = .ok (.goto 8, 3) := by decide +kernel
theorem d_VS_ask_64 : decode b_VS_ask 64 = .ok (.istore 4, 2) := by decide +kernel
theorem d_VS_ask_66 : decode b_VS_ask 66 = .ok (.iload 4, 2) := by decide +kernel
theorem d_VS_ask_68 : decode b_VS_ask 68 = .ok (.iconst 1, 1) := by decide +kernel
theorem d_VS_ask_69 : decode b_VS_ask 69 = .ok (.if_icmp .eq 9, 3) := by decide +kernel
theorem d_VS_ask_72 : decode b_VS_ask 72 = .ok (.iload 4, 2) := by decide +kernel
theorem d_VS_ask_74 : decode b_VS_ask 74 = .ok (.iconst 2, 1) := by decide +kernel
theorem d_VS_ask_75 : decode b_VS_ask 75 = .ok (.if_icmp .ne 14, 3) := by decide +kernel
theorem d_VS_ask_89 : decode b_VS_ask 89 = .ok (.aload_n 0, 1) := by decide +kernel
theorem d_VS_ask_90 : decode b_VS_ask 90 = .ok (.getfield 49, 3) := by decide +kernel
theorem d_VS_ask_93 : decode b_VS_ask 93 = .ok (.ldc 100, 2) := by decide +kernel
theorem d_VS_ask_95 : decode b_VS_ask 95 = .ok (.invokevirtual 102, 3) := by decide +kernel
theorem d_VS_ask_98 : decode b_VS_ask 98 = .ok (.ifCond .eq 7, 3) := by decide +kernel
theorem d_VS_ask_105 : decode b_VS_ask 105 = .ok (.iload 4, 2) := by decide +kernel
theorem d_VS_ask_107 : decode b_VS_ask 107 = .ok (.ireturn, 1) := by decide +kernel
theorem d_VS_again_0 : decode b_VS_again 0 = .ok (.aload_n 0, 1) := by decide +kernel
theorem d_VS_again_1 : decode b_VS_again 1 = .ok (.iload_n 1, 1) := by decide +kernel
theorem d_VS_again_2 : decode b_VS_again 2 = .ok (.invokevirtual 74, 3) := by decide +kernel
theorem d_VS_again_5 : decode b_VS_again 5 = .ok (.aload_n 0, 1) := by decide +kernel
theorem d_VS_again_6 : decode b_VS_again 6 = .ok (.iload_n 1, 1) := by decide +kernel
theorem d_VS_again_7 : decode b_VS_again 7 = .ok (.invokevirtual 84, 3) := by decide +kernel
theorem d_VS_again_10 : decode b_VS_again 10 = .ok (.istore_n 2, 1) := by decide +kernel
theorem d_VS_again_11 : decode b_VS_again 11 = .ok (.aload_n 0, 1) := by decide +kernel
theorem d_VS_again_12 : decode b_VS_again 12 = .ok (.getfield 19, 3) := by decide +kernel
theorem d_VS_again_15 : decode b_VS_again 15 = .ok (.iload_n 2, 1) := by decide +kernel
theorem d_VS_again_16 : decode b_VS_again 16 = .ok (.invokevirtual 88, 3) := by decide +kernel
theorem d_VS_again_19 : decode b_VS_again 19 = .ok (.astore_n 3, 1) := by decide +kernel
theorem d_VS_again_20 : decode b_VS_again 20 = .ok (.aload_n 3, 1) := by decide +kernel
theorem d_VS_again_21 : decode b_VS_again 21 = .ok (.ifnonnull 5, 3) := by decide +kernel
theorem d_VS_again_24 : decode b_VS_again 24 = .ok (.iconst 0, 1) := by decide +kernel
theorem d_VS_again_25 : decode b_VS_again 25 = .ok (.ireturn, 1) := by decide +kernel
theorem d_VS_pass_0 : decode b_VS_pass 0 = .ok (.iload_n 1, 1) := by decide +kernel
theorem d_VS_pass_1 : decode b_VS_pass 1 = .ok (.iconst 1, 1) := by decide +kernel
theorem d_VS_pass_2 : decode b_VS_pass 2 = .ok (.if_icmp .lt 20, 3) := by decide +kernel
theorem d_VS_pass_22 : decode b_VS_pass 22 = .ok (.new 163, 3) := by decide +kernel
theorem d_VS_pass_25 : decode b_VS_pass 25 = .ok (.dup, 1) := by decide +kernel
theorem d_VS_pass_26 : decode b_VS_pass 26 = .ok (.ldc 165, 2) := by decide +kernel
theorem d_VS_pass_28 : decode b_VS_pass 28 = .ok (.invokespecial 167, 3) := by decide +kernel
theorem d_VS_pass_31 : decode b_VS_pass 31 = .ok (.athrow, 1) := by decide +kernel
theorem d_VS_pass_5 : decode b_VS_pass 5 = .ok (.iload_n 1, 1) := by decide +kernel
theorem d_VS_pass_6 : decode b_VS_pass 6 = .ok (.ldc 161, 2) := by decide +kernel
theorem d_VS_pass_8 : decode b_VS_pass 8 = .ok (.if_icmp .gt 14, 3) := by decide +kernel
theorem d_VS_pass_11 : decode b_VS_pass 11 = .ok (.aload_n 0, 1) := by decide +kernel
theorem d_VS_pass_12 : decode b_VS_pass 12 = .ok (.getfield 37, 3) := by decide +kernel
theorem d_VS_pass_15 : decode b_VS_pass 15 = .ok (.iload_n 1, 1) := by decide +kernel
theorem d_VS_pass_16 : decode b_VS_pass 16 = .ok (.iadd, 1) := by decide +kernel
theorem d_VS_pass_17 : decode b_VS_pass 17 = .ok (.ldc 162, 2) := by decide +kernel
theorem d_VS_pass_19 : decode b_VS_pass 19 = .ok (.if_icmp .le 13, 3) := by decide +kernel
theorem d_VS_pass_32 : decode b_VS_pass 32 = .ok (.aload_n 0, 1) := by decide +kernel
theorem d_VS_pass_33 : decode b_VS_pass 33 = .ok (.dup, 1) := by decide +kernel
theorem d_VS_pass_34 : decode b_VS_pass 34 = .ok (.getfield 37, 3) := by decide +kernel
theorem d_VS_pass_37 : decode b_VS_pass 37 = .ok (.iload_n 1, 1) := by decide +kernel
theorem d_VS_pass_38 : decode b_VS_pass 38 = .ok (.iadd, 1) := by decide +kernel
theorem d_VS_pass_39 : decode b_VS_pass 39 = .ok (.putfield 37, 3) := by decide +kernel
theorem d_VS_pass_42 : decode b_VS_pass 42 = .ok (.aload_n 0, 1) := by decide +kernel
theorem d_VS_pass_43 : decode b_VS_pass 43 = .ok (.getfield 37, 3) := by decide +kernel
theorem d_VS_pass_46 : decode b_VS_pass 46 = .ok (.ireturn, 1) := by decide +kernel
set_option maxRecDepth 20000 in
theorem w_225 : Cond.code ⟨"VaryStore$Text", "read", "(LVaryStore$Row;)I"⟩ prog_5_method_3_code 4 (some .int) ∈ TB := tb_in 225 (by decide +kernel) (by decide +kernel)
set_option maxRecDepth 20000 in
theorem w_222 : Cond.methodLink "VaryStore" 201 ⟨"VaryStore$Text", "read", "(LVaryStore$Row;)I"⟩ ∈ TB := tb_in 222 (by decide +kernel) (by decide +kernel)
set_option maxRecDepth 20000 in
theorem w_223 : Cond.instanceMethod ⟨"VaryStore$Text", "read", "(LVaryStore$Row;)I"⟩ ∈ TB := tb_in 223 (by decide +kernel) (by decide +kernel)
set_option maxRecDepth 20000 in
theorem w_224 : Cond.selects "VaryStore$Text" ⟨"VaryStore$Text", "read", "(LVaryStore$Row;)I"⟩ ⟨"VaryStore$Text", "read", "(LVaryStore$Row;)I"⟩ ∈ TB := tb_in 224 (by decide +kernel) (by decide +kernel)
set_option maxRecDepth 20000 in
theorem w_265 : Cond.methodLink "VaryStore" 205 ⟨"VaryStore$Row", "clear", "()V"⟩ ∈ TB := tb_in 265 (by decide +kernel) (by decide +kernel)
set_option maxRecDepth 20000 in
theorem w_266 : Cond.classLink "VaryStore" 163 "java/lang/IllegalArgumentException" ∈ TB := tb_in 266 (by decide +kernel) (by decide +kernel)
set_option maxRecDepth 20000 in
theorem w_42 : Cond.initialized "java/lang/IllegalArgumentException" ∈ TB := tb_in 42 (by decide +kernel) (by decide +kernel)
set_option maxRecDepth 20000 in
theorem w_221 : Cond.code ⟨"VaryStore", "readTape", "(I)V"⟩ prog_1_method_14_code 2 none ∈ TB := tb_in 221 (by decide +kernel) (by decide +kernel)
set_option maxRecDepth 20000 in
theorem w_218 : Cond.methodLink "VaryStore" 74 ⟨"VaryStore", "readTape", "(I)V"⟩ ∈ TB := tb_in 218 (by decide +kernel) (by decide +kernel)
set_option maxRecDepth 20000 in
theorem w_220 : Cond.instanceMethod ⟨"VaryStore", "readTape", "(I)V"⟩ ∈ TB := tb_in 220 (by decide +kernel) (by decide +kernel)
set_option maxRecDepth 20000 in
theorem w_1 : Cond.selects "VaryStore" ⟨"VaryStore", "readTape", "(I)V"⟩ ⟨"VaryStore", "readTape", "(I)V"⟩ ∈ TB := tb_in 1 (by decide +kernel) (by decide +kernel)
set_option maxRecDepth 20000 in
theorem w_338 : Cond.code ⟨"VaryStore", "cutList", "(LVaryStore$Text;Ljava/lang/String;LVaryStore$Items;)Z"⟩ prog_1_method_16_code 5 (some .boolean) ∈ TB := tb_in 338 (by decide +kernel) (by decide +kernel)
set_option maxRecDepth 20000 in
theorem w_335 : Cond.methodLink "VaryStore" 80 ⟨"VaryStore", "cutList", "(LVaryStore$Text;Ljava/lang/String;LVaryStore$Items;)Z"⟩ ∈ TB := tb_in 335 (by decide +kernel) (by decide +kernel)
set_option maxRecDepth 20000 in
theorem w_337 : Cond.instanceMethod ⟨"VaryStore", "cutList", "(LVaryStore$Text;Ljava/lang/String;LVaryStore$Items;)Z"⟩ ∈ TB := tb_in 337 (by decide +kernel) (by decide +kernel)
set_option maxRecDepth 20000 in
theorem w_4 : Cond.selects "VaryStore" ⟨"VaryStore", "cutList", "(LVaryStore$Text;Ljava/lang/String;LVaryStore$Items;)Z"⟩ ⟨"VaryStore", "cutList", "(LVaryStore$Text;Ljava/lang/String;LVaryStore$Items;)Z"⟩ ∈ TB := tb_in 4 (by decide +kernel) (by decide +kernel)
set_option maxRecDepth 20000 in
theorem w_433 : Cond.code ⟨"VaryStore", "placeOfTheOne", "(I)I"⟩ prog_1_method_22_code 4 (some .int) ∈ TB := tb_in 433 (by decide +kernel) (by decide +kernel)
set_option maxRecDepth 20000 in
theorem w_430 : Cond.methodLink "VaryStore" 84 ⟨"VaryStore", "placeOfTheOne", "(I)I"⟩ ∈ TB := tb_in 430 (by decide +kernel) (by decide +kernel)
set_option maxRecDepth 20000 in
theorem w_432 : Cond.instanceMethod ⟨"VaryStore", "placeOfTheOne", "(I)I"⟩ ∈ TB := tb_in 432 (by decide +kernel) (by decide +kernel)
set_option maxRecDepth 20000 in
theorem w_7 : Cond.selects "VaryStore" ⟨"VaryStore", "placeOfTheOne", "(I)I"⟩ ⟨"VaryStore", "placeOfTheOne", "(I)I"⟩ ∈ TB := tb_in 7 (by decide +kernel) (by decide +kernel)
set_option maxRecDepth 20000 in
theorem w_197 : Cond.code ⟨"VaryStore$Shelf", "at", "(I)LVaryStore$Thing;"⟩ prog_4_method_2_code 2 (some (.object "VaryStore$Thing")) ∈ TB := tb_in 197 (by decide +kernel) (by decide +kernel)
set_option maxRecDepth 20000 in
theorem w_194 : Cond.methodLink "VaryStore" 88 ⟨"VaryStore$Shelf", "at", "(I)LVaryStore$Thing;"⟩ ∈ TB := tb_in 194 (by decide +kernel) (by decide +kernel)
set_option maxRecDepth 20000 in
theorem w_195 : Cond.instanceMethod ⟨"VaryStore$Shelf", "at", "(I)LVaryStore$Thing;"⟩ ∈ TB := tb_in 195 (by decide +kernel) (by decide +kernel)
set_option maxRecDepth 20000 in
theorem w_196 : Cond.selects "VaryStore$Shelf" ⟨"VaryStore$Shelf", "at", "(I)LVaryStore$Thing;"⟩ ⟨"VaryStore$Shelf", "at", "(I)LVaryStore$Thing;"⟩ ∈ TB := tb_in 196 (by decide +kernel) (by decide +kernel)
set_option maxRecDepth 20000 in
theorem w_491 : Cond.code ⟨"VaryStore$Items", "has", "(Ljava/lang/String;)Z"⟩ prog_2_method_10_code 2 (some .boolean) ∈ TB := tb_in 491 (by decide +kernel) (by decide +kernel)
set_option maxRecDepth 20000 in
theorem w_488 : Cond.methodLink "VaryStore" 102 ⟨"VaryStore$Items", "has", "(Ljava/lang/String;)Z"⟩ ∈ TB := tb_in 488 (by decide +kernel) (by decide +kernel)
set_option maxRecDepth 20000 in
theorem w_489 : Cond.instanceMethod ⟨"VaryStore$Items", "has", "(Ljava/lang/String;)Z"⟩ ∈ TB := tb_in 489 (by decide +kernel) (by decide +kernel)
set_option maxRecDepth 20000 in
theorem w_490 : Cond.selects "VaryStore$Items" ⟨"VaryStore$Items", "has", "(Ljava/lang/String;)Z"⟩ ⟨"VaryStore$Items", "has", "(Ljava/lang/String;)Z"⟩ ∈ TB := tb_in 490 (by decide +kernel) (by decide +kernel)
set_option maxRecDepth 20000 in
theorem w_669 : Cond.constant "VaryStore" 161 100000 ∈ TB := tb_in 669 (by decide +kernel) (by decide +kernel)
set_option maxRecDepth 20000 in
theorem w_670 : Cond.constant "VaryStore" 162 1000000000 ∈ TB := tb_in 670 (by decide +kernel) (by decide +kernel)
set_option maxRecDepth 100000 in
theorem at_VS_163_167 : (∀ w ∈ vx_atS "VaryStore" 167 "java/lang/IllegalArgumentException" ["java/lang/RuntimeException", "java/lang/Exception"], w ∈ TB ∨ w ∈ NB) ∧ (∀ w ∈ Cond.classLink "VaryStore" 163 "java/lang/IllegalArgumentException" :: Cond.initialized "java/lang/IllegalArgumentException" :: vx_atS "VaryStore" 167 "java/lang/IllegalArgumentException" ["java/lang/RuntimeException", "java/lang/Exception"], vx_ot w = true) := ⟨by decide +kernel, by decide +kernel⟩
def k_VS_readTape : MS := ("VaryStore", b_VS_readTape, 2, none, "readTape", { frames := 6, cells := 1, slots := 6, locals := 82 }, [])
set_option maxRecDepth 100000 in
set_option maxHeartbeats 4000000 in
theorem c_VS_readTape (Γ : GE) (b : Nat) (rq : Nat) (dr : Nat) (fp : Int) (tm : Int) (path : Int) (f1 : Nat → Int32) (f2 : Nat → Int32) (ln : Int) (zd : Int) {M : HM} {n : Nat} (pa : -2147483648 ≤ path) (pb : path < 2147483648) (hdr : b + 5 ≤ dr) (hdr2 : dr + 6 ≤ b + 17) (p0 : M (b) = some (.inr (0, [.ref (b + 1), .ref (b + 3), .ref (rq), .ref (dr), .int (iI (fp)), .int (iI (tm)), .ref (b + 17), .ref (b + 19), .ref (b + 21), .ref (b + 25), .ref (b + 29)]))) (p1 : M (b + 1) = some (.inr (2, [.ref (b + 2), .int (iI (0))]))) (p2 : M (b + 1 + 1) = some (.inl (Γ.2.2.1 0, 300, .inl (f1)))) (p3 : M (dr) = some (.inr (4, [.ref (dr + 1), .ref (dr + 3), .ref (dr + 4), .ref (dr + 5), .int (iI (ln))]))) (p4 : M (dr + 1) = some (.inr (2, [.ref (dr + 2), .int (iI (zd))]))) (p5 : M (dr + 1 + 1) = some (.inl (Γ.2.2.1 0, 300, .inl (f2)))) : CX Γ k_VS_readTape y_VS_readTape [.ref (b), .int (iI (path))] M (n) (fun v M' n' => n = n' ∧ (∀ q, q ≠ dr + 1 → q ≠ dr → q ≠ b → q ≠ b + 1 → M' q = M q) ∧ v = none ∧ M' (dr + 1) = some (.inr (2, [.ref (dr + 2), .int (iI (0))])) ∧ M' (dr) = some (.inr (4, [.ref (dr + 1), .ref (dr + 3), .ref (dr + 4), .ref (dr + 5), .int (iI (0))])) ∧ M' (b) = some (.inr (0, [.ref (b + 1), .ref (b + 3), .ref (rq), .ref (dr), .int (iI ((-1))), .int (iI (tm)), .ref (b + 17), .ref (b + 19), .ref (b + 21), .ref (b + 25), .ref (b + 29)])) ∧ M' (b + 1) = some (.inr (2, [.ref (b + 2), .int (iI (0))])) ∧ (0 ≤ path ∧ path < 16)) (fun C M' n' => C = "java/lang/IllegalArgumentException" ∧ n ≤ n' ∧ (∀ q, q ≠ dr + 1 → q ≠ dr → q ≠ b → q ≠ b + 1 → M' q = M q) ∧ (¬ (0 ≤ path ∧ path < 16))) := by
  refine CX.of (by decide) rfl rfl 0 rfl (Nat.le_of_ble_eq_true rfl) rfl ?_
  refine g_aload_n d_VS_readTape_0 rfl ?_
  refine g_aload_n d_VS_readTape_1 rfl ?_
  refine g_get fa_VS_30 d_VS_readTape_2 p0 rfl ?_
  refine g_aload_n d_VS_readTape_5 rfl ?_
  refine g_get fa_VS_12 d_VS_readTape_6 p0 rfl ?_
  refine g_callV1 (ν := k_Te_read0) ⟨w_222, w_33, w_225, by decide, by decide, by decide +kernel⟩ w_223 w_224 (c_Te_read0 Γ (dr) (b + 1) (f2) (f1) (zd) (ln) (by omega) p3 p4 p5 p1 p2) d_VS_readTape_9 p3 rfl rfl ⟨⟨by decide, by decide⟩, ⟨by decide, by decide⟩⟩ (Nat.le_of_ble_eq_true rfl) (fun v1 M1 n1 hQ1 hn1 hd1 => ?_)
  obtain ⟨rfl, hf1, rfl, hw1_0, hw1_1⟩ := hQ1
  refine g_put fa_VS_33 d_VS_readTape_12 ((hf1 (b) (by omega) (by omega)).trans p0) (Nat.le_of_ble_eq_true rfl) rfl rfl rfl ?_
  refine g_aload_n d_VS_readTape_15 rfl ?_
  refine g_get fa_VS_12 d_VS_readTape_16 (hu_same _ _ _) rfl ?_
  refine g_callV0 (ν := k_Ro_clear) ⟨w_265, w_31, w_233, by decide, by decide, by decide +kernel⟩ w_231 w_232 (c_Ro_clear Γ (b + 1) (b + 2) (0)  ((hu_ne (by omega)).trans ((hf1 ((b + 1)) (by omega) (by omega)).trans p1))) d_VS_readTape_19 ((hu_ne (by omega)).trans ((hf1 (b + 1) (by omega) (by omega)).trans p1)) rfl rfl ⟨⟨by decide, by decide⟩, ⟨by decide, by decide⟩⟩ (Nat.le_of_ble_eq_true rfl) (fun v2 M2 n2 hQ2 hn2 hd2 => ?_)
  obtain ⟨rfl, hf2, rfl, hw2_0⟩ := hQ2
  refine g_aload_n d_VS_readTape_22 rfl ?_
  refine g_get fa_VS_33 d_VS_readTape_23 ((hf2 (b) (by omega)).trans (hu_same _ _ _)) rfl ?_
  refine g_iconst d_VS_readTape_26 ?_
  refine g_icmp_eq (tgt := 40) d_VS_readTape_27 (by decide) (fun _ => ?_) (fun h3 => False.elim (by omega))
  refine g_iload_n d_VS_readTape_40 rfl ?_
  refine g_if_lt (tgt := 50) d_VS_readTape_41 (by decide) (fun h4 => ?_) (fun h4 => ?_)
  · skip
    refine g_throw (lit := 7) (text := "there is no such path") (names := ["java/lang/RuntimeException", "java/lang/Exception"]) w_266 w_42 (by decide +kernel) (by decide +kernel) (by decide) at_VS_163_167.1 at_VS_163_167.2 d_VS_readTape_50 d_VS_readTape_53 d_VS_readTape_54 d_VS_readTape_56 d_VS_readTape_59 rfl (by decide) (by decide) (by decide) (by decide) (fun n9 hn9 => ?_)
    exact ⟨rfl, by omega, fun q e0 e1 e2 e3 => ((hf2 q (by omega)).trans ((hu_ne (by omega)).trans ((hf1 q (by omega) (by omega)).trans rfl))), by omega⟩
  · skip
    refine g_iload_n d_VS_readTape_44 rfl ?_
    refine g_bipush d_VS_readTape_45 (by decide) ?_
    refine g_icmp_lt (tgt := 60) d_VS_readTape_47 (by decide) (fun h5 => ?_) (fun h5 => ?_)
    · skip
      refine g_x ?_
      refine g_vret d_VS_readTape_60 rfl ?_ (by decide) (by decide)
      exact ⟨rfl, fun q e0 e1 e2 e3 => ((hf2 q (by omega)).trans ((hu_ne (by omega)).trans ((hf1 q (by omega) (by omega)).trans rfl))), rfl, ((hf2 (dr + 1) (by omega)).trans ((hu_ne (by omega)).trans hw1_0)), ((hf2 (dr) (by omega)).trans ((hu_ne (by omega)).trans hw1_1)), ((hf2 (b) (by omega)).trans (hu_same _ _ _)), hw2_0, by omega⟩
    · skip
      refine g_throw (lit := 7) (text := "there is no such path") (names := ["java/lang/RuntimeException", "java/lang/Exception"]) w_266 w_42 (by decide +kernel) (by decide +kernel) (by decide) at_VS_163_167.1 at_VS_163_167.2 d_VS_readTape_50 d_VS_readTape_53 d_VS_readTape_54 d_VS_readTape_56 d_VS_readTape_59 rfl (by decide) (by decide) (by decide) (by decide) (fun n9 hn9 => ?_)
      exact ⟨rfl, by omega, fun q e0 e1 e2 e3 => ((hf2 q (by omega)).trans ((hu_ne (by omega)).trans ((hf1 q (by omega) (by omega)).trans rfl))), by omega⟩
def k_VS_ask : MS := ("VaryStore", b_VS_ask, 5, (some .int), "ask", { frames := 7, cells := 1, slots := 6, locals := 153 }, [])
set_option maxRecDepth 100000 in
set_option maxHeartbeats 4000000 in
theorem c_VS_ask (Γ : GE) (b : Nat) (rq : Nat) (dr : Nat) (fp : Int) (tm : Int) (path : Int) (f1 : Nat → Int32) (f2 : Nat → Int32) (ln : Int) (zd : Int) (z : Int) (f3 : Nat → Int32) (w : Int) (x : Nat) (cc : Int) (zz : Int) (y : Nat) (e : Nat) (u : Int) {M : HM} {n : Nat} (pa : -2147483648 ≤ path) (pb : path < 2147483648) (hdr : b + 5 ≤ dr) (hdr2 : dr + 6 ≤ b + 17) (p0 : M (b) = some (.inr (0, [.ref (b + 1), .ref (b + 3), .ref (rq), .ref (dr), .int (iI (fp)), .int (iI (tm)), .ref (b + 17), .ref (b + 19), .ref (b + 21), .ref (b + 25), .ref (b + 29)]))) (p1 : M (b + 1) = some (.inr (2, [.ref (b + 2), .int (iI (0))]))) (p2 : M (b + 1 + 1) = some (.inl (Γ.2.2.1 0, 300, .inl (f1)))) (p3 : M (dr) = some (.inr (4, [.ref (dr + 1), .ref (dr + 3), .ref (dr + 4), .ref (dr + 5), .int (iI (ln))]))) (p4 : M (dr + 1) = some (.inr (2, [.ref (dr + 2), .int (iI (zd))]))) (p5 : M (dr + 1 + 1) = some (.inl (Γ.2.2.1 0, 300, .inl (f2)))) (p6 : M (b + 17) = some (.inr (2, [.ref (b + 18), .int (iI (z))]))) (p7 : M (b + 17 + 1) = some (.inl (Γ.2.2.1 0, 300, .inl (f3)))) (p8 : M (b + 19) = some (.inr (2, [.ref (x), .int (iI (w))]))) (p9 : M (b + 21) = some (.inr (1, [.ref (b + 22), .ref (e), .int (iI (cc))]))) (p10 : M (b + 22) = some (.inr (2, [.ref (y), .int (iI (zz))]))) (p11 : M (b + 3) = some (.inr (3, [.ref (b + 4), .int (iI (0)), .int (iI (u))]))) : CX Γ k_VS_ask y_VS_ask [.ref (b), .int (iI (path))] M (n) (fun v M' n' => n = n' ∧ (∀ q, q ≠ dr + 1 → q ≠ dr → q ≠ b → q ≠ b + 1 → q ≠ b + 17 → q ≠ b + 18 → q ≠ b + 19 → q ≠ b + 22 → q ≠ b + 21 → M' q = M q) ∧ ∃ (zs2x0 : Int) (fs2x1 : Nat → Int32), v = some (.int (iI (0))) ∧ 0 ≤ zs2x0 ∧ zs2x0 ≤ 40 ∧ M' (dr + 1) = some (.inr (2, [.ref (dr + 2), .int (iI (0))])) ∧ M' (dr) = some (.inr (4, [.ref (dr + 1), .ref (dr + 3), .ref (dr + 4), .ref (dr + 5), .int (iI (0))])) ∧ M' (b) = some (.inr (0, [.ref (b + 1), .ref (b + 3), .ref (dr), .ref (rq), .int (iI ((-1))), .int (iI (tm)), .ref (b + 17), .ref (b + 19), .ref (b + 21), .ref (b + 25), .ref (b + 29)])) ∧ M' (b + 1) = some (.inr (2, [.ref (b + 2), .int (iI (0))])) ∧ M' (b + 17) = some (.inr (2, [.ref (b + 18), .int (iI (zs2x0))])) ∧ M' (b + 18) = some (.inl (Γ.2.2.1 0, 300, .inl (fs2x1))) ∧ M' (b + 19) = some (.inr (2, [.ref (x), .int (iI (0))])) ∧ M' (b + 22) = some (.inr (2, [.ref (y), .int (iI (0))])) ∧ M' (b + 21) = some (.inr (1, [.ref (b + 22), .ref (e), .int (iI (0))])) ∧ (0 ≤ path ∧ path < 16)) (fun C M' n' => C = "java/lang/IllegalArgumentException" ∧ n ≤ n' ∧ (∀ q, q ≠ dr + 1 → q ≠ dr → q ≠ b → q ≠ b + 1 → M' q = M q) ∧ (¬ (0 ≤ path ∧ path < 16))) := by
  refine CX.of (by decide) rfl rfl 3 rfl (Nat.le_of_ble_eq_true rfl) rfl ?_
  refine g_aload_n d_VS_ask_0 rfl ?_
  refine g_iload_n d_VS_ask_1 rfl ?_
  refine g_callVX1 (ν := k_VS_readTape) ⟨w_218, w_30, w_221, by decide, by decide, by decide +kernel⟩ w_220 w_1 (c_VS_readTape Γ (b) (rq) (dr) (fp) (tm) (path) (f1) (f2) (ln) (zd) (by omega) (by omega) (by omega) (by omega) p0 p1 p2 p3 p4 p5) d_VS_ask_2 p0 rfl rfl ⟨⟨by decide, by decide⟩, ⟨by decide, by decide⟩⟩ (Nat.le_of_ble_eq_true rfl) rfl (fun C9 M9 n9 h9 _ _ => h9) (fun v1 M1 n1 hQ1 hn1 hd1 => ?_)
  obtain ⟨rfl, hf1, rfl, hw1_0, hw1_1, hw1_2, hw1_3, hc1⟩ := hQ1
  refine g_aload_n d_VS_ask_5 rfl ?_
  refine g_get fa_VS_26 d_VS_ask_6 hw1_2 rfl ?_
  refine g_astore_n d_VS_ask_9 (by decide) rfl ?_
  refine g_aload_n d_VS_ask_10 rfl ?_
  refine g_aload_n d_VS_ask_11 rfl ?_
  refine g_get fa_VS_30 d_VS_ask_12 hw1_2 rfl ?_
  refine g_put fa_VS_26 d_VS_ask_15 hw1_2 (Nat.le_of_ble_eq_true rfl) rfl rfl rfl ?_
  refine g_aload_n d_VS_ask_18 rfl ?_
  refine g_aload_n d_VS_ask_19 rfl ?_
  refine g_put fa_VS_30 d_VS_ask_20 (hu_same _ _ _) (Nat.le_of_ble_eq_true rfl) rfl rfl rfl ?_
  refine g_aload_n d_VS_ask_23 rfl ?_
  refine g_aload_n d_VS_ask_24 rfl ?_
  refine g_get fa_VS_26 d_VS_ask_25 (hu_same _ _ _) rfl ?_
  refine g_ldcS (text := "cache-control") (lit := 0) (by decide) d_VS_ask_28 ?_
  refine g_aload_n d_VS_ask_30 rfl ?_
  refine g_get fa_VS_49 d_VS_ask_31 (hu_same _ _ _) rfl ?_
  refine g_callV3 (ν := k_VS_cutList0) ⟨w_335, w_30, w_338, by decide, by decide, by decide +kernel⟩ w_337 w_4 (c_VS_cutList0 Γ (b) (dr) (rq) ((-1)) (tm) (dr) (0) (b + 21) (z) (f3) (w) (x) (cc) (zz) (y) (e) (by first | omega | decide | (have h9 := lenLit_le 0; omega)) (by first | omega | decide | (have h9 := lenLit_le 0; omega)) (by first | omega | decide | (have h9 := lenLit_le 0; omega)) (hu_same _ _ _) ((hu_ne (by omega)).trans ((hu_ne (by omega)).trans ((hf1 (b + 17) (by omega) (by omega) (by omega) (by omega)).trans p6))) ((hu_ne (by omega)).trans ((hu_ne (by omega)).trans ((hf1 (b + 17 + 1) (by omega) (by omega) (by omega) (by omega)).trans p7))) ((hu_ne (by omega)).trans ((hu_ne (by omega)).trans ((hf1 (b + 19) (by omega) (by omega) (by omega) (by omega)).trans p8))) ((hu_ne (by omega)).trans ((hu_ne (by omega)).trans hw1_1)) ((hu_ne (by omega)).trans ((hu_ne (by omega)).trans ((hf1 ((b + 21)) (by omega) (by omega) (by omega) (by omega)).trans p9))) ((hu_ne (by omega)).trans ((hu_ne (by omega)).trans ((hf1 ((b + 21) + 1) (by omega) (by omega) (by omega) (by omega)).trans p10)))) d_VS_ask_34 (hu_same _ _ _) rfl rfl ⟨⟨by decide, by decide⟩, ⟨by decide, by decide⟩⟩ (Nat.le_of_ble_eq_true rfl) (fun v2 M2 n2 hQ2 hn2 hd2 => ?_)
  obtain ⟨rfl, hf2, zs2x0, fs2x1, rfl, hb2_zs2x0_0, hb2_zs2x0_1, hw2_0, hw2_1, hw2_2, hw2_3, hw2_4⟩ := hQ2
  refine g_pop d_VS_ask_37 rfl ?_
  refine g_aload_n d_VS_ask_38 rfl ?_
  refine g_get fa_VS_19 d_VS_ask_39 ((hf2 (b) (by omega) (by omega) (by omega) (by omega) (by omega)).trans (hu_same _ _ _)) rfl ?_
  refine g_aload_n d_VS_ask_42 rfl ?_
  refine g_iload_n d_VS_ask_43 rfl ?_
  refine g_callV1 (ν := k_VS_theOne0) ⟨w_430, w_30, w_433, by decide, by decide, by decide +kernel⟩ w_432 w_7 (c_VS_theOne0 Γ (b) (dr) (rq) ((-1)) (tm) (path) (u)  ((hf2 (b) (by omega) (by omega) (by omega) (by omega) (by omega)).trans (hu_same _ _ _)) ((hf2 (b + 3) (by omega) (by omega) (by omega) (by omega) (by omega)).trans ((hu_ne (by omega)).trans ((hu_ne (by omega)).trans ((hf1 (b + 3) (by omega) (by omega) (by omega) (by omega)).trans p11))))) d_VS_ask_44 ((hf2 (b) (by omega) (by omega) (by omega) (by omega) (by omega)).trans (hu_same _ _ _)) rfl rfl ⟨⟨by decide, by decide⟩, ⟨by decide, by decide⟩⟩ (Nat.le_of_ble_eq_true rfl) (fun v3 M3 n3 hQ3 hn3 hd3 => ?_)
  obtain ⟨rfl, hf3, rfl⟩ := hQ3
  refine g_callV1 (ν := k_Sh_at0) ⟨w_194, w_32, w_197, by decide, by decide, by decide +kernel⟩ w_195 w_196 (c_Sh_at0 Γ (b + 3) ((-1)) (u) (by omega) (by omega) ((hf3 ((b + 3)) ).trans ((hf2 ((b + 3)) (by omega) (by omega) (by omega) (by omega) (by omega)).trans ((hu_ne (by omega)).trans ((hu_ne (by omega)).trans ((hf1 ((b + 3)) (by omega) (by omega) (by omega) (by omega)).trans p11)))))) d_VS_ask_47 ((hf3 (b + 3) ).trans ((hf2 (b + 3) (by omega) (by omega) (by omega) (by omega) (by omega)).trans ((hu_ne (by omega)).trans ((hu_ne (by omega)).trans ((hf1 (b + 3) (by omega) (by omega) (by omega) (by omega)).trans p11))))) rfl rfl ⟨⟨by decide, by decide⟩, ⟨by decide, by decide⟩⟩ (Nat.le_of_ble_eq_true rfl) (fun v4 M4 n4 hQ4 hn4 hd4 => ?_)
  obtain ⟨rfl, hf4, rfl⟩ := hQ4
  refine g_astore_nN d_VS_ask_50 (by decide) rfl ?_
  refine g_aload_nN d_VS_ask_51 rfl ?_
  refine g_ifnonnullN d_VS_ask_52 ?_
  refine g_iconst d_VS_ask_55 ?_
  refine g_goto (tgt := 64) d_VS_ask_56 (by decide) ?_
  refine g_istore d_VS_ask_64 (by decide) rfl ?_
  refine g_iload d_VS_ask_66 rfl ?_
  refine g_iconst d_VS_ask_68 ?_
  refine g_icmp_eq (tgt := 78) d_VS_ask_69 (by decide) (fun h5 => False.elim (by omega)) (fun _ => ?_)
  refine g_iload d_VS_ask_72 rfl ?_
  refine g_iconst d_VS_ask_74 ?_
  refine g_icmp_ne (tgt := 89) d_VS_ask_75 (by decide) (fun _ => ?_) (fun h6 => False.elim (by omega))
  refine g_aload_n d_VS_ask_89 rfl ?_
  refine g_get fa_VS_49 d_VS_ask_90 ((hf4 (b) ).trans ((hf3 (b) ).trans ((hf2 (b) (by omega) (by omega) (by omega) (by omega) (by omega)).trans (hu_same _ _ _)))) rfl ?_
  refine g_ldcS (text := "only-if-cached") (lit := 1) (by decide) d_VS_ask_93 ?_
  refine g_callV1 (ν := k_It_has0) ⟨w_488, w_34, w_491, by decide, by decide, by decide +kernel⟩ w_489 w_490 (c_It_has0 Γ (b + 21) (1) (b + 22) (e)  ((hf4 ((b + 21)) ).trans ((hf3 ((b + 21)) ).trans hw2_4))) d_VS_ask_95 ((hf4 (b + 21) ).trans ((hf3 (b + 21) ).trans hw2_4)) rfl rfl ⟨⟨by decide, by decide⟩, ⟨by decide, by decide⟩⟩ (Nat.le_of_ble_eq_true rfl) (fun v7 M7 n7 hQ7 hn7 hd7 => ?_)
  obtain ⟨rfl, hf7, rfl⟩ := hQ7
  refine g_if_eq (tgt := 105) d_VS_ask_98 (by decide) (fun _ => ?_) (fun h8 => False.elim (by omega))
  refine g_iload d_VS_ask_105 rfl ?_
  refine g_x ?_
  refine g_iret d_VS_ask_107 rfl ?_ (by decide) (by decide)
  exact ⟨rfl, fun q e0 e1 e2 e3 e4 e5 e6 e7 e8 => ((hf7 q ).trans ((hf4 q ).trans ((hf3 q ).trans ((hf2 q (by omega) (by omega) (by omega) (by omega) (by omega)).trans ((hu_ne (by omega)).trans ((hu_ne (by omega)).trans ((hf1 q (by omega) (by omega) (by omega) (by omega)).trans rfl))))))), zs2x0, fs2x1, rfl, hb2_zs2x0_0, hb2_zs2x0_1, ((hf7 (dr + 1) ).trans ((hf4 (dr + 1) ).trans ((hf3 (dr + 1) ).trans ((hf2 (dr + 1) (by omega) (by omega) (by omega) (by omega) (by omega)).trans ((hu_ne (by omega)).trans ((hu_ne (by omega)).trans hw1_0)))))), ((hf7 (dr) ).trans ((hf4 (dr) ).trans ((hf3 (dr) ).trans ((hf2 (dr) (by omega) (by omega) (by omega) (by omega) (by omega)).trans ((hu_ne (by omega)).trans ((hu_ne (by omega)).trans hw1_1)))))), ((hf7 (b) ).trans ((hf4 (b) ).trans ((hf3 (b) ).trans ((hf2 (b) (by omega) (by omega) (by omega) (by omega) (by omega)).trans (hu_same _ _ _))))), ((hf7 (b + 1) ).trans ((hf4 (b + 1) ).trans ((hf3 (b + 1) ).trans ((hf2 (b + 1) (by omega) (by omega) (by omega) (by omega) (by omega)).trans ((hu_ne (by omega)).trans ((hu_ne (by omega)).trans hw1_3)))))), ((hf7 (b + 17) ).trans ((hf4 (b + 17) ).trans ((hf3 (b + 17) ).trans hw2_0))), ((hf7 (b + 18) ).trans ((hf4 (b + 18) ).trans ((hf3 (b + 18) ).trans hw2_1))), ((hf7 (b + 19) ).trans ((hf4 (b + 19) ).trans ((hf3 (b + 19) ).trans hw2_2))), ((hf7 (b + 22) ).trans ((hf4 (b + 22) ).trans ((hf3 (b + 22) ).trans hw2_3))), ((hf7 (b + 21) ).trans ((hf4 (b + 21) ).trans ((hf3 (b + 21) ).trans hw2_4))), by omega⟩
def k_VS_again : MS := ("VaryStore", b_VS_again, 4, (some .boolean), "again", { frames := 7, cells := 1, slots := 6, locals := 103 }, [])
set_option maxRecDepth 100000 in
set_option maxHeartbeats 4000000 in
theorem c_VS_again (Γ : GE) (b : Nat) (rq : Nat) (dr : Nat) (fp : Int) (tm : Int) (path : Int) (f1 : Nat → Int32) (f2 : Nat → Int32) (ln : Int) (zd : Int) (u : Int) {M : HM} {n : Nat} (pa : -2147483648 ≤ path) (pb : path < 2147483648) (hdr : b + 5 ≤ dr) (hdr2 : dr + 6 ≤ b + 17) (p0 : M (b) = some (.inr (0, [.ref (b + 1), .ref (b + 3), .ref (rq), .ref (dr), .int (iI (fp)), .int (iI (tm)), .ref (b + 17), .ref (b + 19), .ref (b + 21), .ref (b + 25), .ref (b + 29)]))) (p1 : M (b + 1) = some (.inr (2, [.ref (b + 2), .int (iI (0))]))) (p2 : M (b + 1 + 1) = some (.inl (Γ.2.2.1 0, 300, .inl (f1)))) (p3 : M (dr) = some (.inr (4, [.ref (dr + 1), .ref (dr + 3), .ref (dr + 4), .ref (dr + 5), .int (iI (ln))]))) (p4 : M (dr + 1) = some (.inr (2, [.ref (dr + 2), .int (iI (zd))]))) (p5 : M (dr + 1 + 1) = some (.inl (Γ.2.2.1 0, 300, .inl (f2)))) (p6 : M (b + 3) = some (.inr (3, [.ref (b + 4), .int (iI (0)), .int (iI (u))]))) : CX Γ k_VS_again y_VS_again [.ref (b), .int (iI (path))] M (n) (fun v M' n' => n = n' ∧ (∀ q, q ≠ dr + 1 → q ≠ dr → q ≠ b → q ≠ b + 1 → M' q = M q) ∧ v = some (.int (iI (0))) ∧ M' (dr + 1) = some (.inr (2, [.ref (dr + 2), .int (iI (0))])) ∧ M' (dr) = some (.inr (4, [.ref (dr + 1), .ref (dr + 3), .ref (dr + 4), .ref (dr + 5), .int (iI (0))])) ∧ M' (b) = some (.inr (0, [.ref (b + 1), .ref (b + 3), .ref (rq), .ref (dr), .int (iI ((-1))), .int (iI (tm)), .ref (b + 17), .ref (b + 19), .ref (b + 21), .ref (b + 25), .ref (b + 29)])) ∧ M' (b + 1) = some (.inr (2, [.ref (b + 2), .int (iI (0))])) ∧ (0 ≤ path ∧ path < 16)) (fun C M' n' => C = "java/lang/IllegalArgumentException" ∧ n ≤ n' ∧ (∀ q, q ≠ dr + 1 → q ≠ dr → q ≠ b → q ≠ b + 1 → M' q = M q) ∧ (¬ (0 ≤ path ∧ path < 16))) := by
  refine CX.of (by decide) rfl rfl 2 rfl (Nat.le_of_ble_eq_true rfl) rfl ?_
  refine g_aload_n d_VS_again_0 rfl ?_
  refine g_iload_n d_VS_again_1 rfl ?_
  refine g_callVX1 (ν := k_VS_readTape) ⟨w_218, w_30, w_221, by decide, by decide, by decide +kernel⟩ w_220 w_1 (c_VS_readTape Γ (b) (rq) (dr) (fp) (tm) (path) (f1) (f2) (ln) (zd) (by omega) (by omega) (by omega) (by omega) p0 p1 p2 p3 p4 p5) d_VS_again_2 p0 rfl rfl ⟨⟨by decide, by decide⟩, ⟨by decide, by decide⟩⟩ (Nat.le_of_ble_eq_true rfl) rfl (fun C9 M9 n9 h9 _ _ => h9) (fun v1 M1 n1 hQ1 hn1 hd1 => ?_)
  obtain ⟨rfl, hf1, rfl, hw1_0, hw1_1, hw1_2, hw1_3, hc1⟩ := hQ1
  refine g_aload_n d_VS_again_5 rfl ?_
  refine g_iload_n d_VS_again_6 rfl ?_
  refine g_callV1 (ν := k_VS_theOne0) ⟨w_430, w_30, w_433, by decide, by decide, by decide +kernel⟩ w_432 w_7 (c_VS_theOne0 Γ (b) (rq) (dr) ((-1)) (tm) (path) (u)  hw1_2 ((hf1 (b + 3) (by omega) (by omega) (by omega) (by omega)).trans p6)) d_VS_again_7 hw1_2 rfl rfl ⟨⟨by decide, by decide⟩, ⟨by decide, by decide⟩⟩ (Nat.le_of_ble_eq_true rfl) (fun v2 M2 n2 hQ2 hn2 hd2 => ?_)
  obtain ⟨rfl, hf2, rfl⟩ := hQ2
  refine g_istore_n d_VS_again_10 (by decide) rfl ?_
  refine g_aload_n d_VS_again_11 rfl ?_
  refine g_get fa_VS_19 d_VS_again_12 ((hf2 (b) ).trans hw1_2) rfl ?_
  refine g_iload_n d_VS_again_15 rfl ?_
  refine g_callV1 (ν := k_Sh_at0) ⟨w_194, w_32, w_197, by decide, by decide, by decide +kernel⟩ w_195 w_196 (c_Sh_at0 Γ (b + 3) ((-1)) (u) (by omega) (by omega) ((hf2 ((b + 3)) ).trans ((hf1 ((b + 3)) (by omega) (by omega) (by omega) (by omega)).trans p6))) d_VS_again_16 ((hf2 (b + 3) ).trans ((hf1 (b + 3) (by omega) (by omega) (by omega) (by omega)).trans p6)) rfl rfl ⟨⟨by decide, by decide⟩, ⟨by decide, by decide⟩⟩ (Nat.le_of_ble_eq_true rfl) (fun v3 M3 n3 hQ3 hn3 hd3 => ?_)
  obtain ⟨rfl, hf3, rfl⟩ := hQ3
  refine g_astore_nN d_VS_again_19 (by decide) rfl ?_
  refine g_aload_nN d_VS_again_20 rfl ?_
  refine g_ifnonnullN d_VS_again_21 ?_
  refine g_iconst d_VS_again_24 ?_
  refine g_x ?_
  refine g_zret (ty := .boolean) (by first | rfl | decide) d_VS_again_25 rfl ?_ (by decide) (by decide)
  exact ⟨rfl, fun q e0 e1 e2 e3 => ((hf3 q ).trans ((hf2 q ).trans ((hf1 q (by omega) (by omega) (by omega) (by omega)).trans rfl))), rfl, ((hf3 (dr + 1) ).trans ((hf2 (dr + 1) ).trans hw1_0)), ((hf3 (dr) ).trans ((hf2 (dr) ).trans hw1_1)), ((hf3 (b) ).trans ((hf2 (b) ).trans hw1_2)), ((hf3 (b + 1) ).trans ((hf2 (b + 1) ).trans hw1_3)), by omega⟩
def k_VS_pass : MS := ("VaryStore", b_VS_pass, 2, (some .int), "pass", { frames := 6, cells := 1, slots := 6, locals := 82 }, [])
set_option maxRecDepth 100000 in
set_option maxHeartbeats 4000000 in
theorem c_VS_pass (Γ : GE) (b : Nat) (rq : Nat) (dr : Nat) (fp : Int) (k : Int) {M : HM} {n : Nat} (ka : -2147483648 ≤ k) (kb : k < 2147483648) (p0 : M (b) = some (.inr (0, [.ref (b + 1), .ref (b + 3), .ref (rq), .ref (dr), .int (iI (fp)), .int (iI (0)), .ref (b + 17), .ref (b + 19), .ref (b + 21), .ref (b + 25), .ref (b + 29)]))) : CX Γ k_VS_pass y_VS_pass [.ref (b), .int (iI (k))] M (n) (fun v M' n' => n = n' ∧ (∀ q, q ≠ b → M' q = M q) ∧ v = some (.int (iI ((0 + k)))) ∧ M' (b) = some (.inr (0, [.ref (b + 1), .ref (b + 3), .ref (rq), .ref (dr), .int (iI (fp)), .int (iI ((0 + k))), .ref (b + 17), .ref (b + 19), .ref (b + 21), .ref (b + 25), .ref (b + 29)])) ∧ (1 ≤ k ∧ k ≤ 100000)) (fun C M' n' => C = "java/lang/IllegalArgumentException" ∧ n ≤ n' ∧ (∀ q, M' q = M q) ∧ (¬ (1 ≤ k ∧ k ≤ 100000))) := by
  refine CX.of (by decide) rfl rfl 0 rfl (Nat.le_of_ble_eq_true rfl) rfl ?_
  refine g_iload_n d_VS_pass_0 rfl ?_
  refine g_iconst d_VS_pass_1 ?_
  refine g_icmp_lt (tgt := 22) d_VS_pass_2 (by decide) (fun h1 => ?_) (fun h1 => ?_)
  · skip
    refine g_throw (lit := 3) (text := "so many seconds can not go by") (names := ["java/lang/RuntimeException", "java/lang/Exception"]) w_266 w_42 (by decide +kernel) (by decide +kernel) (by decide) at_VS_163_167.1 at_VS_163_167.2 d_VS_pass_22 d_VS_pass_25 d_VS_pass_26 d_VS_pass_28 d_VS_pass_31 rfl (by decide) (by decide) (by decide) (by decide) (fun n9 hn9 => ?_)
    exact ⟨rfl, by omega, fun q  => rfl, by omega⟩
  · skip
    refine g_iload_n d_VS_pass_5 rfl ?_
    refine g_ldcI (z := 100000) w_669 rfl d_VS_pass_6 ?_
    refine g_icmp_gt (tgt := 22) d_VS_pass_8 (by decide) (fun h2 => ?_) (fun h2 => ?_)
    · skip
      refine g_throw (lit := 3) (text := "so many seconds can not go by") (names := ["java/lang/RuntimeException", "java/lang/Exception"]) w_266 w_42 (by decide +kernel) (by decide +kernel) (by decide) at_VS_163_167.1 at_VS_163_167.2 d_VS_pass_22 d_VS_pass_25 d_VS_pass_26 d_VS_pass_28 d_VS_pass_31 rfl (by decide) (by decide) (by decide) (by decide) (fun n9 hn9 => ?_)
      exact ⟨rfl, by omega, fun q  => rfl, by omega⟩
    · skip
      refine g_aload_n d_VS_pass_11 rfl ?_
      refine g_get fa_VS_37 d_VS_pass_12 p0 rfl ?_
      refine g_iload_n d_VS_pass_15 rfl ?_
      refine g_iadd d_VS_pass_16 ?_
      refine g_ldcI (z := 1000000000) w_670 rfl d_VS_pass_17 ?_
      refine g_icmp_le (tgt := 32) d_VS_pass_19 (by decide) (fun h3 => ?_) (fun h3 => False.elim (by omega))
      refine g_aload_n d_VS_pass_32 rfl ?_
      refine g_dup d_VS_pass_33 rfl ?_
      refine g_get fa_VS_37 d_VS_pass_34 p0 rfl ?_
      refine g_iload_n d_VS_pass_37 rfl ?_
      refine g_iadd d_VS_pass_38 ?_
      refine g_put fa_VS_37 d_VS_pass_39 p0 (Nat.le_of_ble_eq_true rfl) rfl rfl rfl ?_
      refine g_aload_n d_VS_pass_42 rfl ?_
      refine g_get fa_VS_37 d_VS_pass_43 (hu_same _ _ _) rfl ?_
      refine g_x ?_
      refine g_iret d_VS_pass_46 rfl ?_ (by decide) (by decide)
      exact ⟨rfl, fun q e0 => ((hu_ne (by omega)).trans rfl), rfl, (hu_same _ _ _), by omega⟩
