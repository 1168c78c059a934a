theorem d_La_ask_0 : decode b_La_ask 0 = .ok (.aload_n 2, 1) := by decide +kernel
theorem d_La_ask_1 : decode b_La_ask 1 = .ok (.iconst 0, 1) := by decide +kernel
theorem d_La_ask_2 : decode b_La_ask 2 = .ok (.aload_n 0, 1) := by decide +kernel
theorem d_La_ask_3 : decode b_La_ask 3 = .ok (.iload_n 1, 1) := by decide +kernel
theorem d_La_ask_4 : decode b_La_ask 4 = .ok (.invokevirtual 7, 3) := by decide +kernel
theorem d_La_ask_12 : decode b_La_ask 12 = .ok (.astore_n 3, 1) := by decide +kernel
theorem d_La_ask_13 : decode b_La_ask 13 = .ok (.iconst 1, 1) := by decide +kernel
theorem d_La_ask_14 : decode b_La_ask 14 = .ok (.ireturn, 1) := by decide +kernel
theorem d_La_ask_7 : decode b_La_ask 7 = .ok (.i2l, 1) := by decide +kernel
theorem d_La_ask_8 : decode b_La_ask 8 = .ok (.lastore, 1) := by decide +kernel
theorem d_La_ask_9 : decode b_La_ask 9 = .ok (.goto 6, 3) := by decide +kernel
theorem d_La_ask_15 : decode b_La_ask 15 = .ok (.iconst 0, 1) := by decide +kernel
theorem d_La_ask_16 : decode b_La_ask 16 = .ok (.ireturn, 1) := by decide +kernel
theorem d_La_keep_0 : decode b_La_keep 0 = .ok (.aload_n 2, 1) := by decide +kernel
theorem d_La_keep_1 : decode b_La_keep 1 = .ok (.iconst 0, 1) := by decide +kernel
theorem d_La_keep_2 : decode b_La_keep 2 = .ok (.aload_n 0, 1) := by decide +kernel
theorem d_La_keep_3 : decode b_La_keep 3 = .ok (.iload_n 1, 1) := by decide +kernel
theorem d_La_keep_4 : decode b_La_keep 4 = .ok (.invokevirtual 15, 3) := by decide +kernel
theorem d_La_keep_19 : decode b_La_keep 19 = .ok (.astore_n 3, 1) := by decide +kernel
theorem d_La_keep_20 : decode b_La_keep 20 = .ok (.iconst 1, 1) := by decide +kernel
theorem d_La_keep_21 : decode b_La_keep 21 = .ok (.ireturn, 1) := by decide +kernel
theorem d_La_keep_7 : decode b_La_keep 7 = .ok (.ifCond .eq 7, 3) := by decide +kernel
theorem d_La_keep_14 : decode b_La_keep 14 = .ok (.lconst 0, 1) := by decide +kernel
theorem d_La_keep_15 : decode b_La_keep 15 = .ok (.lastore, 1) := by decide +kernel
theorem d_La_keep_16 : decode b_La_keep 16 = .ok (.goto 6, 3) := by decide +kernel
theorem d_La_keep_22 : decode b_La_keep 22 = .ok (.iconst 0, 1) := by decide +kernel
theorem d_La_keep_23 : decode b_La_keep 23 = .ok (.ireturn, 1) := by decide +kernel
theorem d_La_again_0 : decode b_La_again 0 = .ok (.aload_n 2, 1) := by decide +kernel
theorem d_La_again_1 : decode b_La_again 1 = .ok (.iconst 0, 1) := by decide +kernel
theorem d_La_again_2 : decode b_La_again 2 = .ok (.aload_n 0, 1) := by decide +kernel
theorem d_La_again_3 : decode b_La_again 3 = .ok (.iload_n 1, 1) := by decide +kernel
theorem d_La_again_4 : decode b_La_again 4 = .ok (.invokevirtual 19, 3) := by decide +kernel
theorem d_La_again_19 : decode b_La_again 19 = .ok (.astore_n 3, 1) := by decide +kernel
theorem d_La_again_20 : decode b_La_again 20 = .ok (.iconst 1, 1) := by decide +kernel
theorem d_La_again_21 : decode b_La_again 21 = .ok (.ireturn, 1) := by decide +kernel
theorem d_La_again_7 : decode b_La_again 7 = .ok (.ifCond .eq 7, 3) := by decide +kernel
theorem d_La_again_14 : decode b_La_again 14 = .ok (.lconst 0, 1) := by decide +kernel
theorem d_La_again_15 : decode b_La_again 15 = .ok (.lastore, 1) := by decide +kernel
theorem d_La_again_16 : decode b_La_again 16 = .ok (.goto 6, 3) := by decide +kernel
theorem d_La_again_22 : decode b_La_again 22 = .ok (.iconst 0, 1) := by decide +kernel
theorem d_La_again_23 : decode b_La_again 23 = .ok (.ireturn, 1) := by decide +kernel
theorem d_La_pass_0 : decode b_La_pass 0 = .ok (.aload_n 2, 1) := by decide +kernel
theorem d_La_pass_1 : decode b_La_pass 1 = .ok (.iconst 0, 1) := by decide +kernel
theorem d_La_pass_2 : decode b_La_pass 2 = .ok (.aload_n 0, 1) := by decide +kernel
theorem d_La_pass_3 : decode b_La_pass 3 = .ok (.iload_n 1, 1) := by decide +kernel
theorem d_La_pass_4 : decode b_La_pass 4 = .ok (.invokevirtual 22, 3) := by decide +kernel
theorem d_La_pass_12 : decode b_La_pass 12 = .ok (.astore_n 3, 1) := by decide +kernel
theorem d_La_pass_13 : decode b_La_pass 13 = .ok (.iconst 1, 1) := by decide +kernel
theorem d_La_pass_14 : decode b_La_pass 14 = .ok (.ireturn, 1) := by decide +kernel
theorem d_La_pass_7 : decode b_La_pass 7 = .ok (.i2l, 1) := by decide +kernel
theorem d_La_pass_8 : decode b_La_pass 8 = .ok (.lastore, 1) := by decide +kernel
theorem d_La_pass_9 : decode b_La_pass 9 = .ok (.goto 6, 3) := by decide +kernel
theorem d_La_pass_15 : decode b_La_pass 15 = .ok (.iconst 0, 1) := by decide +kernel
theorem d_La_pass_16 : decode b_La_pass 16 = .ok (.ireturn, 1) := by decide +kernel
theorem d_La_thing_0 : decode b_La_thing 0 = .ok (.aload_n 3, 1) := by decide +kernel
theorem d_La_thing_1 : decode b_La_thing 1 = .ok (.iconst 0, 1) := by decide +kernel
theorem d_La_thing_2 : decode b_La_thing 2 = .ok (.aload_n 0, 1) := by decide +kernel
theorem d_La_thing_3 : decode b_La_thing 3 = .ok (.iload_n 1, 1) := by decide +kernel
theorem d_La_thing_4 : decode b_La_thing 4 = .ok (.iload_n 2, 1) := by decide +kernel
theorem d_La_thing_5 : decode b_La_thing 5 = .ok (.invokevirtual 25, 3) := by decide +kernel
theorem d_La_thing_13 : decode b_La_thing 13 = .ok (.astore 4, 2) := by decide +kernel
theorem d_La_thing_15 : decode b_La_thing 15 = .ok (.iconst 1, 1) := by decide +kernel
theorem d_La_thing_16 : decode b_La_thing 16 = .ok (.ireturn, 1) := by decide +kernel
set_option maxRecDepth 20000 in
theorem w_217 : Cond.code ⟨"VaryStore", "ask", "(I)I"⟩ prog_1_method_3_code 5 (some .int) ∈ TB := tb_in 217 (by decide +kernel) (by decide +kernel)
set_option maxRecDepth 20000 in
theorem w_214 : Cond.methodLink "VaryStoreLaw" 7 ⟨"VaryStore", "ask", "(I)I"⟩ ∈ TB := tb_in 214 (by decide +kernel) (by decide +kernel)
set_option maxRecDepth 20000 in
theorem w_213 : Cond.classLink "VaryStoreLaw" 13 "java/lang/IllegalArgumentException" ∈ TB := tb_in 213 (by decide +kernel) (by decide +kernel)
set_option maxRecDepth 20000 in
theorem w_268 : Cond.castable "java/lang/IllegalArgumentException" "java/lang/IllegalArgumentException" ∈ NB := nb_in 268 (by decide +kernel) (by decide +kernel)
set_option maxRecDepth 20000 in
theorem w_215 : Cond.instanceMethod ⟨"VaryStore", "ask", "(I)I"⟩ ∈ TB := tb_in 215 (by decide +kernel) (by decide +kernel)
set_option maxRecDepth 20000 in
theorem w_216 : Cond.selects "VaryStore" ⟨"VaryStore", "ask", "(I)I"⟩ ⟨"VaryStore", "ask", "(I)I"⟩ ∈ TB := tb_in 216 (by decide +kernel) (by decide +kernel)
set_option maxRecDepth 20000 in
theorem w_511 : Cond.code ⟨"VaryStore", "keep", "(I)Z"⟩ prog_1_method_4_code 3 (some .boolean) ∈ TB := tb_in 511 (by decide +kernel) (by decide +kernel)
set_option maxRecDepth 20000 in
theorem w_508 : Cond.methodLink "VaryStoreLaw" 15 ⟨"VaryStore", "keep", "(I)Z"⟩ ∈ TB := tb_in 508 (by decide +kernel) (by decide +kernel)
set_option maxRecDepth 20000 in
theorem w_509 : Cond.instanceMethod ⟨"VaryStore", "keep", "(I)Z"⟩ ∈ TB := tb_in 509 (by decide +kernel) (by decide +kernel)
set_option maxRecDepth 20000 in
theorem w_510 : Cond.selects "VaryStore" ⟨"VaryStore", "keep", "(I)Z"⟩ ⟨"VaryStore", "keep", "(I)Z"⟩ ∈ TB := tb_in 510 (by decide +kernel) (by decide +kernel)
set_option maxRecDepth 20000 in
theorem w_656 : Cond.code ⟨"VaryStore", "again", "(I)Z"⟩ prog_1_method_5_code 4 (some .boolean) ∈ TB := tb_in 656 (by decide +kernel) (by decide +kernel)
set_option maxRecDepth 20000 in
theorem w_653 : Cond.methodLink "VaryStoreLaw" 19 ⟨"VaryStore", "again", "(I)Z"⟩ ∈ TB := tb_in 653 (by decide +kernel) (by decide +kernel)
set_option maxRecDepth 20000 in
theorem w_654 : Cond.instanceMethod ⟨"VaryStore", "again", "(I)Z"⟩ ∈ TB := tb_in 654 (by decide +kernel) (by decide +kernel)
set_option maxRecDepth 20000 in
theorem w_655 : Cond.selects "VaryStore" ⟨"VaryStore", "again", "(I)Z"⟩ ⟨"VaryStore", "again", "(I)Z"⟩ ∈ TB := tb_in 655 (by decide +kernel) (by decide +kernel)
set_option maxRecDepth 20000 in
theorem w_668 : Cond.code ⟨"VaryStore", "pass", "(I)I"⟩ prog_1_method_8_code 2 (some .int) ∈ TB := tb_in 668 (by decide +kernel) (by decide +kernel)
set_option maxRecDepth 20000 in
theorem w_665 : Cond.methodLink "VaryStoreLaw" 22 ⟨"VaryStore", "pass", "(I)I"⟩ ∈ TB := tb_in 665 (by decide +kernel) (by decide +kernel)
set_option maxRecDepth 20000 in
theorem w_666 : Cond.instanceMethod ⟨"VaryStore", "pass", "(I)I"⟩ ∈ TB := tb_in 666 (by decide +kernel) (by decide +kernel)
set_option maxRecDepth 20000 in
theorem w_667 : Cond.selects "VaryStore" ⟨"VaryStore", "pass", "(I)I"⟩ ⟨"VaryStore", "pass", "(I)I"⟩ ∈ TB := tb_in 667 (by decide +kernel) (by decide +kernel)
set_option maxRecDepth 20000 in
theorem w_679 : Cond.code ⟨"VaryStore", "thing", "(II)I"⟩ prog_1_method_9_code 4 (some .int) ∈ TB := tb_in 679 (by decide +kernel) (by decide +kernel)
set_option maxRecDepth 20000 in
theorem w_676 : Cond.methodLink "VaryStoreLaw" 25 ⟨"VaryStore", "thing", "(II)I"⟩ ∈ TB := tb_in 676 (by decide +kernel) (by decide +kernel)
set_option maxRecDepth 20000 in
theorem w_675 : Cond.classLink "VaryStoreLaw" 29 "java/util/NoSuchElementException" ∈ TB := tb_in 675 (by decide +kernel) (by decide +kernel)
set_option maxRecDepth 20000 in
theorem w_682 : Cond.castable "java/util/NoSuchElementException" "java/util/NoSuchElementException" ∈ NB := nb_in 682 (by decide +kernel) (by decide +kernel)
set_option maxRecDepth 20000 in
theorem w_677 : Cond.instanceMethod ⟨"VaryStore", "thing", "(II)I"⟩ ∈ TB := tb_in 677 (by decide +kernel) (by decide +kernel)
set_option maxRecDepth 20000 in
theorem w_678 : Cond.selects "VaryStore" ⟨"VaryStore", "thing", "(II)I"⟩ ⟨"VaryStore", "thing", "(II)I"⟩ ∈ TB := tb_in 678 (by decide +kernel) (by decide +kernel)
def k_La_ask : MS := ("VaryStoreLaw", b_La_ask, 4, (some .int), "ask", { frames := 8, cells := 1, slots := 6, locals := 177 }, [(0, 9, 12, 13)])
set_option maxRecDepth 100000 in
set_option maxHeartbeats 4000000 in
theorem c_La_ask (Γ : GE) (b : Nat) (path : Int) (o : Nat) (g : Nat → Int64) {M : HM} {n : Nat} (pa : -2147483648 ≤ path) (pb : path < 2147483648) (ho : b + 33 ≤ o) (hon : o < n) (hbn : b + 33 ≤ n) (p0 : M (b + 1) = some (.inr (2, [.ref (b + 2), .int (iI (0))]))) (p1 : M (b + 2) = some (.inl (Γ.2.2.1 0, 300, .inl (fun _ => iI 0)))) (p2 : M (b) = some (.inr (0, [.ref (b + 1), .ref (b + 3), .ref (b + 5), .ref (b + 11), .int (iI ((-1))), .int (iI (0)), .ref (b + 17), .ref (b + 19), .ref (b + 21), .ref (b + 25), .ref (b + 29)]))) (p3 : M (b + 3) = some (.inr (3, [.ref (b + 4), .int (iI (0)), .int (iI (0))]))) (p4 : M (b + 4) = some (.inl (Γ.2.2.1 2, 25, .inr (.inr (.inr (.inr (fun _ => none))))))) (p5 : M (b + 5) = some (.inr (4, [.ref (b + 6), .ref (b + 8), .ref (b + 9), .ref (b + 10), .int (iI (0))]))) (p6 : M (b + 6) = some (.inr (2, [.ref (b + 7), .int (iI (0))]))) (p7 : M (b + 7) = some (.inl (Γ.2.2.1 0, 300, .inl (fun _ => iI 0)))) (p8 : M (b + 8) = some (.inl (Γ.2.2.1 1, 100, .inl (fun _ => iI 0)))) (p9 : M (b + 9) = some (.inl (Γ.2.2.1 1, 100, .inl (fun _ => iI 0)))) (p10 : M (b + 10) = some (.inl (Γ.2.2.1 1, 100, .inl (fun _ => iI 0)))) (p11 : M (b + 11) = some (.inr (4, [.ref (b + 12), .ref (b + 14), .ref (b + 15), .ref (b + 16), .int (iI (0))]))) (p12 : M (b + 12) = some (.inr (2, [.ref (b + 13), .int (iI (0))]))) (p13 : M (b + 13) = some (.inl (Γ.2.2.1 0, 300, .inl (fun _ => iI 0)))) (p14 : M (b + 14) = some (.inl (Γ.2.2.1 1, 100, .inl (fun _ => iI 0)))) (p15 : M (b + 15) = some (.inl (Γ.2.2.1 1, 100, .inl (fun _ => iI 0)))) (p16 : M (b + 16) = some (.inl (Γ.2.2.1 1, 100, .inl (fun _ => iI 0)))) (p17 : M (b + 17) = some (.inr (2, [.ref (b + 18), .int (iI (0))]))) (p18 : M (b + 18) = some (.inl (Γ.2.2.1 0, 300, .inl (fun _ => iI 0)))) (p19 : M (b + 19) = some (.inr (2, [.ref (b + 20), .int (iI (0))]))) (p20 : M (b + 20) = some (.inl (Γ.2.2.1 0, 300, .inl (fun _ => iI 0)))) (p21 : M (b + 21) = some (.inr (1, [.ref (b + 22), .ref (b + 24), .int (iI (0))]))) (p22 : M (b + 22) = some (.inr (2, [.ref (b + 23), .int (iI (0))]))) (p23 : M (b + 23) = some (.inl (Γ.2.2.1 0, 300, .inl (fun _ => iI 0)))) (p24 : M (b + 24) = some (.inl (Γ.2.2.1 1, 150, .inl (fun _ => iI 0)))) (p25 : M (b + 25) = some (.inr (1, [.ref (b + 26), .ref (b + 28), .int (iI (0))]))) (p26 : M (b + 26) = some (.inr (2, [.ref (b + 27), .int (iI (0))]))) (p27 : M (b + 27) = some (.inl (Γ.2.2.1 0, 300, .inl (fun _ => iI 0)))) (p28 : M (b + 28) = some (.inl (Γ.2.2.1 1, 150, .inl (fun _ => iI 0)))) (p29 : M (b + 29) = some (.inr (1, [.ref (b + 30), .ref (b + 32), .int (iI (0))]))) (p30 : M (b + 30) = some (.inr (2, [.ref (b + 31), .int (iI (0))]))) (p31 : M (b + 31) = some (.inl (Γ.2.2.1 0, 300, .inl (fun _ => iI 0)))) (p32 : M (b + 32) = some (.inl (Γ.2.2.1 1, 150, .inl (fun _ => iI 0)))) (p33 : M (o) = some (.inl (Γ.2.2.1 3, 1, .inr (.inl (g))))) : CTW Γ k_La_ask y_La_ask [.ref (b), .int (iI (path)), .ref (o)] M (n) (fun v M' n' => n ≤ n' ∧ (∀ q, (q < b ∨ b + 33 ≤ q) → q < n → q ≠ o → M' q = M q) ∧ ((v = some (.int (iI 0)) ∧ M' (o) = some (.inl (Γ.2.2.1 3, 1, .inr (.inl (vp_updL g (0 : Int).toNat ((iI (0)).toInt64))))) ∧ (0 ≤ path ∧ path < 16)) ∨ (v = some (.int (iI 1)) ∧ (¬ (0 ≤ path ∧ path < 16))))) := by
  refine CTW.of (by decide) rfl rfl 1 rfl (Nat.le_of_ble_eq_true rfl) ?_
  refine g_aload_n d_La_ask_0 rfl ?_
  refine g_iconst d_La_ask_1 ?_
  refine g_aload_n d_La_ask_2 rfl ?_
  refine g_iload_n d_La_ask_3 rfl ?_
  refine g_callVC1 (ν := k_VS_ask) (x0 := (0, 9, 12, 13)) (cn := "java/lang/IllegalArgumentException") ⟨w_214, w_30, w_217, by decide, by decide, by decide +kernel⟩ w_215 w_216 (c_VS_ask Γ (b) (b + 5) (b + 11) ((-1)) (0) (path) (fun _ => iI 0) (fun _ => iI 0) (0) (0) (0) (fun _ => iI 0) (0) (b + 20) (0) (0) (b + 23) (b + 24) (0) (by omega) (by omega) (by omega) (by omega) p2 p0 p1 p11 p12 p13 p17 p18 p19 p21 p22 p3) d_La_ask_4 p2 rfl rfl ⟨⟨by decide, by decide⟩, ⟨by decide, by decide⟩⟩ (Nat.le_of_ble_eq_true rfl) rfl (by decide) (by decide) w_213 (fun C9 M9 n9 h9 => by obtain ⟨rfl, -⟩ := h9; exact w_268) (fun C1 M1x n1x q1 hX1 hn1x hd1x => ?_) (fun v1 M1 n1 hQ1 hn1 hd1 => ?_)
  · skip
    obtain ⟨-, hle1, hfx1, hcx1⟩ := hX1
    refine g_astore_n d_La_ask_12 (by decide) rfl ?_
    refine g_iconst d_La_ask_13 ?_
    refine g_iret d_La_ask_14 rfl ?_ (by decide) (by decide)
    exact ⟨by omega, fun q e0 e1 e2 => ((hfx1 q (by omega) (by omega) (by omega) (by omega)).trans rfl), Or.inr ⟨rfl, hcx1⟩⟩
  · skip
    obtain ⟨rfl, hf1, zs1x0, fs1x1, rfl, hb1_zs1x0_0, hb1_zs1x0_1, hw1_0, hw1_1, hw1_2, hw1_3, hw1_4, hw1_5, hw1_6, hw1_7, hw1_8, hc1⟩ := hQ1
    refine g_i2l d_La_ask_7 rfl ?_
    refine g_last d_La_ask_8 ((hf1 (o) (by omega) (by omega) (by omega) (by omega) (by omega) (by omega) (by omega) (by omega) (by omega)).trans p33) (by omega) (by omega) (by omega) ?_
    refine g_goto (tgt := 15) d_La_ask_9 (by decide) ?_
    refine g_iconst d_La_ask_15 ?_
    refine g_iret d_La_ask_16 rfl ?_ (by decide) (by decide)
    exact ⟨by omega, fun q e0 e1 e2 => ((hu_ne (by omega)).trans ((hf1 q (by omega) (by omega) (by omega) (by omega) (by omega) (by omega) (by omega) (by omega) (by omega)).trans rfl)), Or.inl ⟨rfl, (hu_same _ _ _), hc1⟩⟩
def k_La_keep : MS := ("VaryStoreLaw", b_La_keep, 4, (some .int), "keep", { frames := 9, cells := 14, slots := 1383, locals := 197 }, [(0, 16, 19, 13)])
set_option maxRecDepth 100000 in
set_option maxHeartbeats 4000000 in
theorem c_La_keep (Γ : GE) (b : Nat) (path : Int) (o : Nat) (g : Nat → Int64) {M : HM} {n : Nat} (pa : -2147483648 ≤ path) (pb : path < 2147483648) (ho : b + 33 ≤ o) (hon : o < n) (hbn : b + 33 ≤ n) (p0 : M (b + 1) = some (.inr (2, [.ref (b + 2), .int (iI (0))]))) (p1 : M (b + 2) = some (.inl (Γ.2.2.1 0, 300, .inl (fun _ => iI 0)))) (p2 : M (b) = some (.inr (0, [.ref (b + 1), .ref (b + 3), .ref (b + 5), .ref (b + 11), .int (iI ((-1))), .int (iI (0)), .ref (b + 17), .ref (b + 19), .ref (b + 21), .ref (b + 25), .ref (b + 29)]))) (p3 : M (b + 3) = some (.inr (3, [.ref (b + 4), .int (iI (0)), .int (iI (0))]))) (p4 : M (b + 4) = some (.inl (Γ.2.2.1 2, 25, .inr (.inr (.inr (.inr (fun _ => none))))))) (p5 : M (b + 5) = some (.inr (4, [.ref (b + 6), .ref (b + 8), .ref (b + 9), .ref (b + 10), .int (iI (0))]))) (p6 : M (b + 6) = some (.inr (2, [.ref (b + 7), .int (iI (0))]))) (p7 : M (b + 7) = some (.inl (Γ.2.2.1 0, 300, .inl (fun _ => iI 0)))) (p8 : M (b + 8) = some (.inl (Γ.2.2.1 1, 100, .inl (fun _ => iI 0)))) (p9 : M (b + 9) = some (.inl (Γ.2.2.1 1, 100, .inl (fun _ => iI 0)))) (p10 : M (b + 10) = some (.inl (Γ.2.2.1 1, 100, .inl (fun _ => iI 0)))) (p11 : M (b + 11) = some (.inr (4, [.ref (b + 12), .ref (b + 14), .ref (b + 15), .ref (b + 16), .int (iI (0))]))) (p12 : M (b + 12) = some (.inr (2, [.ref (b + 13), .int (iI (0))]))) (p13 : M (b + 13) = some (.inl (Γ.2.2.1 0, 300, .inl (fun _ => iI 0)))) (p14 : M (b + 14) = some (.inl (Γ.2.2.1 1, 100, .inl (fun _ => iI 0)))) (p15 : M (b + 15) = some (.inl (Γ.2.2.1 1, 100, .inl (fun _ => iI 0)))) (p16 : M (b + 16) = some (.inl (Γ.2.2.1 1, 100, .inl (fun _ => iI 0)))) (p17 : M (b + 17) = some (.inr (2, [.ref (b + 18), .int (iI (0))]))) (p18 : M (b + 18) = some (.inl (Γ.2.2.1 0, 300, .inl (fun _ => iI 0)))) (p19 : M (b + 19) = some (.inr (2, [.ref (b + 20), .int (iI (0))]))) (p20 : M (b + 20) = some (.inl (Γ.2.2.1 0, 300, .inl (fun _ => iI 0)))) (p21 : M (b + 21) = some (.inr (1, [.ref (b + 22), .ref (b + 24), .int (iI (0))]))) (p22 : M (b + 22) = some (.inr (2, [.ref (b + 23), .int (iI (0))]))) (p23 : M (b + 23) = some (.inl (Γ.2.2.1 0, 300, .inl (fun _ => iI 0)))) (p24 : M (b + 24) = some (.inl (Γ.2.2.1 1, 150, .inl (fun _ => iI 0)))) (p25 : M (b + 25) = some (.inr (1, [.ref (b + 26), .ref (b + 28), .int (iI (0))]))) (p26 : M (b + 26) = some (.inr (2, [.ref (b + 27), .int (iI (0))]))) (p27 : M (b + 27) = some (.inl (Γ.2.2.1 0, 300, .inl (fun _ => iI 0)))) (p28 : M (b + 28) = some (.inl (Γ.2.2.1 1, 150, .inl (fun _ => iI 0)))) (p29 : M (b + 29) = some (.inr (1, [.ref (b + 30), .ref (b + 32), .int (iI (0))]))) (p30 : M (b + 30) = some (.inr (2, [.ref (b + 31), .int (iI (0))]))) (p31 : M (b + 31) = some (.inl (Γ.2.2.1 0, 300, .inl (fun _ => iI 0)))) (p32 : M (b + 32) = some (.inl (Γ.2.2.1 1, 150, .inl (fun _ => iI 0)))) (p33 : M (o) = some (.inl (Γ.2.2.1 3, 1, .inr (.inl (g))))) : CTW Γ k_La_keep y_La_keep [.ref (b), .int (iI (path)), .ref (o)] M (n) (fun v M' n' => n ≤ n' ∧ (∀ q, (q < b ∨ b + 33 ≤ q) → q < n → q ≠ o → M' q = M q) ∧ ((v = some (.int (iI 0)) ∧ M' (o) = some (.inl (Γ.2.2.1 3, 1, .inr (.inl (vp_updL g (0 : Int).toNat (Int64.ofNat 0))))) ∧ (0 ≤ path ∧ path < 16)) ∨ (v = some (.int (iI 1)) ∧ (¬ (0 ≤ path ∧ path < 16))))) := by
  refine CTW.of (by decide) rfl rfl 1 rfl (Nat.le_of_ble_eq_true rfl) ?_
  refine g_aload_n d_La_keep_0 rfl ?_
  refine g_iconst d_La_keep_1 ?_
  refine g_aload_n d_La_keep_2 rfl ?_
  refine g_iload_n d_La_keep_3 rfl ?_
  refine g_callVC1 (ν := k_VS_keep) (x0 := (0, 16, 19, 13)) (cn := "java/lang/IllegalArgumentException") ⟨w_508, w_30, w_511, by decide, by decide, by decide +kernel⟩ w_509 w_510 (c_VS_keep Γ (b) ((-1)) (0) (path) (0) (0) (0) (0) (0) (0) (0) (fun _ => iI 0) (fun _ => iI 0) (fun _ => iI 0) (fun _ => iI 0) (fun _ => iI 0) (fun _ => iI 0) (fun _ => iI 0) (fun _ => iI 0) (b + 23) (b + 24) (by omega) (by omega) (by omega) p2 p0 p1 p11 p12 p13 p5 p6 p7 p8 p9 p10 p17 p18 p19 p20 p21 p22 p3 p4) d_La_keep_4 p2 rfl rfl ⟨⟨by decide, by decide⟩, ⟨by decide, by decide⟩⟩ (Nat.le_of_ble_eq_true rfl) rfl (by decide) (by decide) w_213 (fun C9 M9 n9 h9 => by obtain ⟨rfl, -⟩ := h9; exact w_268) (fun C1 M1x n1x q1 hX1 hn1x hd1x => ?_) (fun v1 M1 n1 hQ1 hn1 hd1 => ?_)
  · skip
    obtain ⟨-, hle1, hfx1, hcx1⟩ := hX1
    refine g_astore_n d_La_keep_19 (by decide) rfl ?_
    refine g_iconst d_La_keep_20 ?_
    refine g_iret d_La_keep_21 rfl ?_ (by decide) (by decide)
    exact ⟨by omega, fun q e0 e1 e2 => ((hfx1 q (by omega) (by omega) (by omega) (by omega)).trans rfl), Or.inr ⟨rfl, hcx1⟩⟩
  · skip
    obtain ⟨rfl, hf1, zs1x0, fs1x1, rfl, hb1_zs1x0_0, hb1_zs1x0_1, hw1_0, hw1_1, hw1_2, hw1_3, hw1_4, hw1_5, hw1_6, hw1_7, hw1_8, hw1_9, hw1_10, hw1_11, hw1_12, hw1_13, hw1_14, hw1_15, hw1_16, hw1_17, hw1_18, hw1_19, hw1_20, hw1_21, hw1_22, hc1⟩ := hQ1
    refine g_if_eq (tgt := 14) d_La_keep_7 (by decide) (fun _ => ?_) (fun h2 => False.elim (by omega))
    refine g_lconst d_La_keep_14 rfl ?_
    refine g_last d_La_keep_15 ((hf1 (o) (by omega) (by omega) (by omega) (by omega) (by omega) (by omega) (by omega) (by omega) (by omega) (by omega) (by omega) (by omega) (by omega) (by omega) (by omega) (by omega) (by omega) (by omega) (by omega) (by omega) (by omega) (by omega) (by omega)).trans p33) (by omega) (by omega) (by omega) ?_
    refine g_goto (tgt := 22) d_La_keep_16 (by decide) ?_
    refine g_iconst d_La_keep_22 ?_
    refine g_iret d_La_keep_23 rfl ?_ (by decide) (by decide)
    exact ⟨by omega, fun q e0 e1 e2 => ((hu_ne (by omega)).trans ((hf1 q (by omega) (by omega) (by omega) (by omega) (by omega) (by omega) (by omega) (by omega) (by omega) (by omega) (by omega) (by omega) (by omega) (by omega) (by omega) (by omega) (by omega) (by omega) (by omega) (by omega) (by omega) (by omega) (by omega)).trans rfl)), Or.inl ⟨rfl, (hu_same _ _ _), hc1⟩⟩
def k_La_again : MS := ("VaryStoreLaw", b_La_again, 4, (some .int), "again", { frames := 8, cells := 1, slots := 6, locals := 126 }, [(0, 16, 19, 13)])
set_option maxRecDepth 100000 in
set_option maxHeartbeats 4000000 in
theorem c_La_again (Γ : GE) (b : Nat) (path : Int) (o : Nat) (g : Nat → Int64) {M : HM} {n : Nat} (pa : -2147483648 ≤ path) (pb : path < 2147483648) (ho : b + 33 ≤ o) (hon : o < n) (hbn : b + 33 ≤ n) (p0 : M (b + 1) = some (.inr (2, [.ref (b + 2), .int (iI (0))]))) (p1 : M (b + 2) = some (.inl (Γ.2.2.1 0, 300, .inl (fun _ => iI 0)))) (p2 : M (b) = some (.inr (0, [.ref (b + 1), .ref (b + 3), .ref (b + 5), .ref (b + 11), .int (iI ((-1))), .int (iI (0)), .ref (b + 17), .ref (b + 19), .ref (b + 21), .ref (b + 25), .ref (b + 29)]))) (p3 : M (b + 3) = some (.inr (3, [.ref (b + 4), .int (iI (0)), .int (iI (0))]))) (p4 : M (b + 4) = some (.inl (Γ.2.2.1 2, 25, .inr (.inr (.inr (.inr (fun _ => none))))))) (p5 : M (b + 5) = some (.inr (4, [.ref (b + 6), .ref (b + 8), .ref (b + 9), .ref (b + 10), .int (iI (0))]))) (p6 : M (b + 6) = some (.inr (2, [.ref (b + 7), .int (iI (0))]))) (p7 : M (b + 7) = some (.inl (Γ.2.2.1 0, 300, .inl (fun _ => iI 0)))) (p8 : M (b + 8) = some (.inl (Γ.2.2.1 1, 100, .inl (fun _ => iI 0)))) (p9 : M (b + 9) = some (.inl (Γ.2.2.1 1, 100, .inl (fun _ => iI 0)))) (p10 : M (b + 10) = some (.inl (Γ.2.2.1 1, 100, .inl (fun _ => iI 0)))) (p11 : M (b + 11) = some (.inr (4, [.ref (b + 12), .ref (b + 14), .ref (b + 15), .ref (b + 16), .int (iI (0))]))) (p12 : M (b + 12) = some (.inr (2, [.ref (b + 13), .int (iI (0))]))) (p13 : M (b + 13) = some (.inl (Γ.2.2.1 0, 300, .inl (fun _ => iI 0)))) (p14 : M (b + 14) = some (.inl (Γ.2.2.1 1, 100, .inl (fun _ => iI 0)))) (p15 : M (b + 15) = some (.inl (Γ.2.2.1 1, 100, .inl (fun _ => iI 0)))) (p16 : M (b + 16) = some (.inl (Γ.2.2.1 1, 100, .inl (fun _ => iI 0)))) (p17 : M (b + 17) = some (.inr (2, [.ref (b + 18), .int (iI (0))]))) (p18 : M (b + 18) = some (.inl (Γ.2.2.1 0, 300, .inl (fun _ => iI 0)))) (p19 : M (b + 19) = some (.inr (2, [.ref (b + 20), .int (iI (0))]))) (p20 : M (b + 20) = some (.inl (Γ.2.2.1 0, 300, .inl (fun _ => iI 0)))) (p21 : M (b + 21) = some (.inr (1, [.ref (b + 22), .ref (b + 24), .int (iI (0))]))) (p22 : M (b + 22) = some (.inr (2, [.ref (b + 23), .int (iI (0))]))) (p23 : M (b + 23) = some (.inl (Γ.2.2.1 0, 300, .inl (fun _ => iI 0)))) (p24 : M (b + 24) = some (.inl (Γ.2.2.1 1, 150, .inl (fun _ => iI 0)))) (p25 : M (b + 25) = some (.inr (1, [.ref (b + 26), .ref (b + 28), .int (iI (0))]))) (p26 : M (b + 26) = some (.inr (2, [.ref (b + 27), .int (iI (0))]))) (p27 : M (b + 27) = some (.inl (Γ.2.2.1 0, 300, .inl (fun _ => iI 0)))) (p28 : M (b + 28) = some (.inl (Γ.2.2.1 1, 150, .inl (fun _ => iI 0)))) (p29 : M (b + 29) = some (.inr (1, [.ref (b + 30), .ref (b + 32), .int (iI (0))]))) (p30 : M (b + 30) = some (.inr (2, [.ref (b + 31), .int (iI (0))]))) (p31 : M (b + 31) = some (.inl (Γ.2.2.1 0, 300, .inl (fun _ => iI 0)))) (p32 : M (b + 32) = some (.inl (Γ.2.2.1 1, 150, .inl (fun _ => iI 0)))) (p33 : M (o) = some (.inl (Γ.2.2.1 3, 1, .inr (.inl (g))))) : CTW Γ k_La_again y_La_again [.ref (b), .int (iI (path)), .ref (o)] M (n) (fun v M' n' => n ≤ n' ∧ (∀ q, (q < b ∨ b + 33 ≤ q) → q < n → q ≠ o → M' q = M q) ∧ ((v = some (.int (iI 0)) ∧ M' (o) = some (.inl (Γ.2.2.1 3, 1, .inr (.inl (vp_updL g (0 : Int).toNat (Int64.ofNat 0))))) ∧ (0 ≤ path ∧ path < 16)) ∨ (v = some (.int (iI 1)) ∧ (¬ (0 ≤ path ∧ path < 16))))) := by
  refine CTW.of (by decide) rfl rfl 1 rfl (Nat.le_of_ble_eq_true rfl) ?_
  refine g_aload_n d_La_again_0 rfl ?_
  refine g_iconst d_La_again_1 ?_
  refine g_aload_n d_La_again_2 rfl ?_
  refine g_iload_n d_La_again_3 rfl ?_
  refine g_callVC1 (ν := k_VS_again) (x0 := (0, 16, 19, 13)) (cn := "java/lang/IllegalArgumentException") ⟨w_653, w_30, w_656, by decide, by decide, by decide +kernel⟩ w_654 w_655 (c_VS_again Γ (b) (b + 5) (b + 11) ((-1)) (0) (path) (fun _ => iI 0) (fun _ => iI 0) (0) (0) (0) (by omega) (by omega) (by omega) (by omega) p2 p0 p1 p11 p12 p13 p3) d_La_again_4 p2 rfl rfl ⟨⟨by decide, by decide⟩, ⟨by decide, by decide⟩⟩ (Nat.le_of_ble_eq_true rfl) rfl (by decide) (by decide) w_213 (fun C9 M9 n9 h9 => by obtain ⟨rfl, -⟩ := h9; exact w_268) (fun C1 M1x n1x q1 hX1 hn1x hd1x => ?_) (fun v1 M1 n1 hQ1 hn1 hd1 => ?_)
  · skip
    obtain ⟨-, hle1, hfx1, hcx1⟩ := hX1
    refine g_astore_n d_La_again_19 (by decide) rfl ?_
    refine g_iconst d_La_again_20 ?_
    refine g_iret d_La_again_21 rfl ?_ (by decide) (by decide)
    exact ⟨by omega, fun q e0 e1 e2 => ((hfx1 q (by omega) (by omega) (by omega) (by omega)).trans rfl), Or.inr ⟨rfl, hcx1⟩⟩
  · skip
    obtain ⟨rfl, hf1, rfl, hw1_0, hw1_1, hw1_2, hw1_3, hc1⟩ := hQ1
    refine g_if_eq (tgt := 14) d_La_again_7 (by decide) (fun _ => ?_) (fun h2 => False.elim (by omega))
    refine g_lconst d_La_again_14 rfl ?_
    refine g_last d_La_again_15 ((hf1 (o) (by omega) (by omega) (by omega) (by omega)).trans p33) (by omega) (by omega) (by omega) ?_
    refine g_goto (tgt := 22) d_La_again_16 (by decide) ?_
    refine g_iconst d_La_again_22 ?_
    refine g_iret d_La_again_23 rfl ?_ (by decide) (by decide)
    exact ⟨by omega, fun q e0 e1 e2 => ((hu_ne (by omega)).trans ((hf1 q (by omega) (by omega) (by omega) (by omega)).trans rfl)), Or.inl ⟨rfl, (hu_same _ _ _), hc1⟩⟩
def k_La_pass : MS := ("VaryStoreLaw", b_La_pass, 4, (some .int), "pass", { frames := 7, cells := 1, slots := 6, locals := 103 }, [(0, 9, 12, 13)])
set_option maxRecDepth 100000 in
set_option maxHeartbeats 4000000 in
theorem c_La_pass (Γ : GE) (b : Nat) (k : Int) (o : Nat) (g : Nat → Int64) {M : HM} {n : Nat} (ka : -2147483648 ≤ k) (kb : k < 2147483648) (ho : b + 33 ≤ o) (hon : o < n) (hbn : b + 33 ≤ n) (p0 : M (b + 1) = some (.inr (2, [.ref (b + 2), .int (iI (0))]))) (p1 : M (b + 2) = some (.inl (Γ.2.2.1 0, 300, .inl (fun _ => iI 0)))) (p2 : M (b) = some (.inr (0, [.ref (b + 1), .ref (b + 3), .ref (b + 5), .ref (b + 11), .int (iI ((-1))), .int (iI (0)), .ref (b + 17), .ref (b + 19), .ref (b + 21), .ref (b + 25), .ref (b + 29)]))) (p3 : M (b + 3) = some (.inr (3, [.ref (b + 4), .int (iI (0)), .int (iI (0))]))) (p4 : M (b + 4) = some (.inl (Γ.2.2.1 2, 25, .inr (.inr (.inr (.inr (fun _ => none))))))) (p5 : M (b + 5) = some (.inr (4, [.ref (b + 6), .ref (b + 8), .ref (b + 9), .ref (b + 10), .int (iI (0))]))) (p6 : M (b + 6) = some (.inr (2, [.ref (b + 7), .int (iI (0))]))) (p7 : M (b + 7) = some (.inl (Γ.2.2.1 0, 300, .inl (fun _ => iI 0)))) (p8 : M (b + 8) = some (.inl (Γ.2.2.1 1, 100, .inl (fun _ => iI 0)))) (p9 : M (b + 9) = some (.inl (Γ.2.2.1 1, 100, .inl (fun _ => iI 0)))) (p10 : M (b + 10) = some (.inl (Γ.2.2.1 1, 100, .inl (fun _ => iI 0)))) (p11 : M (b + 11) = some (.inr (4, [.ref (b + 12), .ref (b + 14), .ref (b + 15), .ref (b + 16), .int (iI (0))]))) (p12 : M (b + 12) = some (.inr (2, [.ref (b + 13), .int (iI (0))]))) (p13 : M (b + 13) = some (.inl (Γ.2.2.1 0, 300, .inl (fun _ => iI 0)))) (p14 : M (b + 14) = some (.inl (Γ.2.2.1 1, 100, .inl (fun _ => iI 0)))) (p15 : M (b + 15) = some (.inl (Γ.2.2.1 1, 100, .inl (fun _ => iI 0)))) (p16 : M (b + 16) = some (.inl (Γ.2.2.1 1, 100, .inl (fun _ => iI 0)))) (p17 : M (b + 17) = some (.inr (2, [.ref (b + 18), .int (iI (0))]))) (p18 : M (b + 18) = some (.inl (Γ.2.2.1 0, 300, .inl (fun _ => iI 0)))) (p19 : M (b + 19) = some (.inr (2, [.ref (b + 20), .int (iI (0))]))) (p20 : M (b + 20) = some (.inl (Γ.2.2.1 0, 300, .inl (fun _ => iI 0)))) (p21 : M (b + 21) = some (.inr (1, [.ref (b + 22), .ref (b + 24), .int (iI (0))]))) (p22 : M (b + 22) = some (.inr (2, [.ref (b + 23), .int (iI (0))]))) (p23 : M (b + 23) = some (.inl (Γ.2.2.1 0, 300, .inl (fun _ => iI 0)))) (p24 : M (b + 24) = some (.inl (Γ.2.2.1 1, 150, .inl (fun _ => iI 0)))) (p25 : M (b + 25) = some (.inr (1, [.ref (b + 26), .ref (b + 28), .int (iI (0))]))) (p26 : M (b + 26) = some (.inr (2, [.ref (b + 27), .int (iI (0))]))) (p27 : M (b + 27) = some (.inl (Γ.2.2.1 0, 300, .inl (fun _ => iI 0)))) (p28 : M (b + 28) = some (.inl (Γ.2.2.1 1, 150, .inl (fun _ => iI 0)))) (p29 : M (b + 29) = some (.inr (1, [.ref (b + 30), .ref (b + 32), .int (iI (0))]))) (p30 : M (b + 30) = some (.inr (2, [.ref (b + 31), .int (iI (0))]))) (p31 : M (b + 31) = some (.inl (Γ.2.2.1 0, 300, .inl (fun _ => iI 0)))) (p32 : M (b + 32) = some (.inl (Γ.2.2.1 1, 150, .inl (fun _ => iI 0)))) (p33 : M (o) = some (.inl (Γ.2.2.1 3, 1, .inr (.inl (g))))) : CTW Γ k_La_pass y_La_pass [.ref (b), .int (iI (k)), .ref (o)] M (n) (fun v M' n' => n ≤ n' ∧ (∀ q, (q < b ∨ b + 33 ≤ q) → q < n → q ≠ o → M' q = M q) ∧ ((v = some (.int (iI 0)) ∧ M' (o) = some (.inl (Γ.2.2.1 3, 1, .inr (.inl (vp_updL g (0 : Int).toNat ((iI ((0 + k))).toInt64))))) ∧ (1 ≤ k ∧ k ≤ 100000)) ∨ (v = some (.int (iI 1)) ∧ (¬ (1 ≤ k ∧ k ≤ 100000))))) := by
  refine CTW.of (by decide) rfl rfl 1 rfl (Nat.le_of_ble_eq_true rfl) ?_
  refine g_aload_n d_La_pass_0 rfl ?_
  refine g_iconst d_La_pass_1 ?_
  refine g_aload_n d_La_pass_2 rfl ?_
  refine g_iload_n d_La_pass_3 rfl ?_
  refine g_callVC1 (ν := k_VS_pass) (x0 := (0, 9, 12, 13)) (cn := "java/lang/IllegalArgumentException") ⟨w_665, w_30, w_668, by decide, by decide, by decide +kernel⟩ w_666 w_667 (c_VS_pass Γ (b) (b + 5) (b + 11) ((-1)) (k) (by omega) (by omega) p2) d_La_pass_4 p2 rfl rfl ⟨⟨by decide, by decide⟩, ⟨by decide, by decide⟩⟩ (Nat.le_of_ble_eq_true rfl) rfl (by decide) (by decide) w_213 (fun C9 M9 n9 h9 => by obtain ⟨rfl, -⟩ := h9; exact w_268) (fun C1 M1x n1x q1 hX1 hn1x hd1x => ?_) (fun v1 M1 n1 hQ1 hn1 hd1 => ?_)
  · skip
    obtain ⟨-, hle1, hfx1, hcx1⟩ := hX1
    refine g_astore_n d_La_pass_12 (by decide) rfl ?_
    refine g_iconst d_La_pass_13 ?_
    refine g_iret d_La_pass_14 rfl ?_ (by decide) (by decide)
    exact ⟨by omega, fun q e0 e1 e2 => ((hfx1 q ).trans rfl), Or.inr ⟨rfl, hcx1⟩⟩
  · skip
    obtain ⟨rfl, hf1, rfl, hw1_0, hc1⟩ := hQ1
    refine g_i2l d_La_pass_7 rfl ?_
    refine g_last d_La_pass_8 ((hf1 (o) (by omega)).trans p33) (by omega) (by omega) (by omega) ?_
    refine g_goto (tgt := 15) d_La_pass_9 (by decide) ?_
    refine g_iconst d_La_pass_15 ?_
    refine g_iret d_La_pass_16 rfl ?_ (by decide) (by decide)
    exact ⟨by omega, fun q e0 e1 e2 => ((hu_ne (by omega)).trans ((hf1 q (by omega)).trans rfl)), Or.inl ⟨rfl, (hu_same _ _ _), hc1⟩⟩
def k_La_thing : MS := ("VaryStoreLaw", b_La_thing, 5, (some .int), "thing", { frames := 7, cells := 1, slots := 6, locals := 105 }, [(0, 10, 13, 29)])
set_option maxRecDepth 100000 in
set_option maxHeartbeats 4000000 in
theorem c_La_thing (Γ : GE) (b : Nat) (i : Int) (w : Int) (o : Nat) (g : Nat → Int64) {M : HM} {n : Nat} (i0 : -2147483648 ≤ i) (i1 : i < 2147483648) (ho : b + 33 ≤ o) (hon : o < n) (hbn : b + 33 ≤ n) (p0 : M (b + 1) = some (.inr (2, [.ref (b + 2), .int (iI (0))]))) (p1 : M (b + 2) = some (.inl (Γ.2.2.1 0, 300, .inl (fun _ => iI 0)))) (p2 : M (b) = some (.inr (0, [.ref (b + 1), .ref (b + 3), .ref (b + 5), .ref (b + 11), .int (iI ((-1))), .int (iI (0)), .ref (b + 17), .ref (b + 19), .ref (b + 21), .ref (b + 25), .ref (b + 29)]))) (p3 : M (b + 3) = some (.inr (3, [.ref (b + 4), .int (iI (0)), .int (iI (0))]))) (p4 : M (b + 4) = some (.inl (Γ.2.2.1 2, 25, .inr (.inr (.inr (.inr (fun _ => none))))))) (p5 : M (b + 5) = some (.inr (4, [.ref (b + 6), .ref (b + 8), .ref (b + 9), .ref (b + 10), .int (iI (0))]))) (p6 : M (b + 6) = some (.inr (2, [.ref (b + 7), .int (iI (0))]))) (p7 : M (b + 7) = some (.inl (Γ.2.2.1 0, 300, .inl (fun _ => iI 0)))) (p8 : M (b + 8) = some (.inl (Γ.2.2.1 1, 100, .inl (fun _ => iI 0)))) (p9 : M (b + 9) = some (.inl (Γ.2.2.1 1, 100, .inl (fun _ => iI 0)))) (p10 : M (b + 10) = some (.inl (Γ.2.2.1 1, 100, .inl (fun _ => iI 0)))) (p11 : M (b + 11) = some (.inr (4, [.ref (b + 12), .ref (b + 14), .ref (b + 15), .ref (b + 16), .int (iI (0))]))) (p12 : M (b + 12) = some (.inr (2, [.ref (b + 13), .int (iI (0))]))) (p13 : M (b + 13) = some (.inl (Γ.2.2.1 0, 300, .inl (fun _ => iI 0)))) (p14 : M (b + 14) = some (.inl (Γ.2.2.1 1, 100, .inl (fun _ => iI 0)))) (p15 : M (b + 15) = some (.inl (Γ.2.2.1 1, 100, .inl (fun _ => iI 0)))) (p16 : M (b + 16) = some (.inl (Γ.2.2.1 1, 100, .inl (fun _ => iI 0)))) (p17 : M (b + 17) = some (.inr (2, [.ref (b + 18), .int (iI (0))]))) (p18 : M (b + 18) = some (.inl (Γ.2.2.1 0, 300, .inl (fun _ => iI 0)))) (p19 : M (b + 19) = some (.inr (2, [.ref (b + 20), .int (iI (0))]))) (p20 : M (b + 20) = some (.inl (Γ.2.2.1 0, 300, .inl (fun _ => iI 0)))) (p21 : M (b + 21) = some (.inr (1, [.ref (b + 22), .ref (b + 24), .int (iI (0))]))) (p22 : M (b + 22) = some (.inr (2, [.ref (b + 23), .int (iI (0))]))) (p23 : M (b + 23) = some (.inl (Γ.2.2.1 0, 300, .inl (fun _ => iI 0)))) (p24 : M (b + 24) = some (.inl (Γ.2.2.1 1, 150, .inl (fun _ => iI 0)))) (p25 : M (b + 25) = some (.inr (1, [.ref (b + 26), .ref (b + 28), .int (iI (0))]))) (p26 : M (b + 26) = some (.inr (2, [.ref (b + 27), .int (iI (0))]))) (p27 : M (b + 27) = some (.inl (Γ.2.2.1 0, 300, .inl (fun _ => iI 0)))) (p28 : M (b + 28) = some (.inl (Γ.2.2.1 1, 150, .inl (fun _ => iI 0)))) (p29 : M (b + 29) = some (.inr (1, [.ref (b + 30), .ref (b + 32), .int (iI (0))]))) (p30 : M (b + 30) = some (.inr (2, [.ref (b + 31), .int (iI (0))]))) (p31 : M (b + 31) = some (.inl (Γ.2.2.1 0, 300, .inl (fun _ => iI 0)))) (p32 : M (b + 32) = some (.inl (Γ.2.2.1 1, 150, .inl (fun _ => iI 0)))) (p33 : M (o) = some (.inl (Γ.2.2.1 3, 1, .inr (.inl (g))))) : CTW Γ k_La_thing y_La_thing [.ref (b), .int (iI (i)), .int (iI (w)), .ref (o)] M (n) (fun v M' n' => n ≤ n' ∧ (∀ q, (q < b ∨ b + 33 ≤ q) → q < n → q ≠ o → M' q = M q) ∧ (False ∨ (v = some (.int (iI 1)) ∧ (True)))) := by
  refine CTW.of (by decide) rfl rfl 1 rfl (Nat.le_of_ble_eq_true rfl) ?_
  refine g_aload_n d_La_thing_0 rfl ?_
  refine g_iconst d_La_thing_1 ?_
  refine g_aload_n d_La_thing_2 rfl ?_
  refine g_iload_n d_La_thing_3 rfl ?_
  refine g_iload_n d_La_thing_4 rfl ?_
  refine g_callVC2 (ν := k_VS_thing) (x0 := (0, 10, 13, 29)) (cn := "java/util/NoSuchElementException") ⟨w_676, w_30, w_679, by decide, by decide, by decide +kernel⟩ w_677 w_678 (c_VS_thing Γ (b) (b + 5) (b + 11) ((-1)) (0) (i) (w) (0) (by omega) (by omega) p2 p3) d_La_thing_5 p2 rfl rfl ⟨⟨by decide, by decide⟩, ⟨by decide, by decide⟩⟩ (Nat.le_of_ble_eq_true rfl) rfl (by decide) (by decide) w_675 (fun C9 M9 n9 h9 => by obtain ⟨rfl, -⟩ := h9; exact w_682) (fun C1 M1x n1x q1 hX1 hn1x hd1x => ?_) (fun v1 M1 n1 hQ1 hn1 hd1 => ?_)
  · skip
    obtain ⟨-, hle1, hfx1, hcx1⟩ := hX1
    refine g_astore d_La_thing_13 (by decide) rfl ?_
    refine g_iconst d_La_thing_15 ?_
    refine g_iret d_La_thing_16 rfl ?_ (by decide) (by decide)
    exact ⟨by omega, fun q e0 e1 e2 => ((hfx1 q ).trans rfl), Or.inr ⟨rfl, hcx1⟩⟩
  · skip
    exact hQ1.elim
