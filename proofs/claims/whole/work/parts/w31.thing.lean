theorem d_VS_thing_0 : decode b_VS_thing 0 = .ok (.aload_n 0, 1) := by decide +kernel
theorem d_VS_thing_1 : decode b_VS_thing 1 = .ok (.getfield 19, 3) := by decide +kernel
theorem d_VS_thing_4 : decode b_VS_thing 4 = .ok (.iload_n 1, 1) := by decide +kernel
theorem d_VS_thing_5 : decode b_VS_thing 5 = .ok (.invokevirtual 88, 3) := by decide +kernel
theorem d_VS_thing_8 : decode b_VS_thing 8 = .ok (.astore_n 3, 1) := by decide +kernel
theorem d_VS_thing_9 : decode b_VS_thing 9 = .ok (.aload_n 3, 1) := by decide +kernel
theorem d_VS_thing_10 : decode b_VS_thing 10 = .ok (.ifnonnull 13, 3) := by decide +kernel
theorem d_VS_thing_13 : decode b_VS_thing 13 = .ok (.new 170, 3) := by decide +kernel
theorem d_VS_thing_16 : decode b_VS_thing 16 = .ok (.dup, 1) := by decide +kernel
theorem d_VS_thing_17 : decode b_VS_thing 17 = .ok (.ldc 172, 2) := by decide +kernel
theorem d_VS_thing_19 : decode b_VS_thing 19 = .ok (.invokespecial 174, 3) := by decide +kernel
theorem d_VS_thing_22 : decode b_VS_thing 22 = .ok (.athrow, 1) := by decide +kernel
theorem d_Mo_thing_0 : decode b_Mo_thing 0 = .ok (.iload_n 1, 1) := by decide +kernel
theorem d_Mo_thing_1 : decode b_Mo_thing 1 = .ok (.ifCond .lt 15, 3) := by decide +kernel
theorem d_Mo_thing_16 : decode b_Mo_thing 16 = .ok (.iconst 0, 1) := by decide +kernel
theorem d_Mo_thing_17 : decode b_Mo_thing 17 = .ok (.istore_n 3, 1) := by decide +kernel
theorem d_Mo_thing_18 : decode b_Mo_thing 18 = .ok (.iload_n 3, 1) := by decide +kernel
theorem d_Mo_thing_19 : decode b_Mo_thing 19 = .ok (.ifCond .eq 12, 3) := by decide +kernel
theorem d_Mo_thing_31 : decode b_Mo_thing 31 = .ok (.aconst_null, 1) := by decide +kernel
theorem d_Mo_thing_32 : decode b_Mo_thing 32 = .ok (.astore 4, 2) := by decide +kernel
theorem d_Mo_thing_34 : decode b_Mo_thing 34 = .ok (.iload_n 3, 1) := by decide +kernel
theorem d_Mo_thing_35 : decode b_Mo_thing 35 = .ok (.ifCond .eq 11, 3) := by decide +kernel
theorem d_Mo_thing_46 : decode b_Mo_thing 46 = .ok (.iconst 0, 1) := by decide +kernel
theorem d_Mo_thing_47 : decode b_Mo_thing 47 = .ok (.goto 9, 3) := by decide +kernel
theorem d_Mo_thing_56 : decode b_Mo_thing 56 = .ok (.istore 5, 2) := by decide +kernel
theorem d_Mo_thing_58 : decode b_Mo_thing 58 = .ok (.aload_n 0, 1) := by decide +kernel
theorem d_Mo_thing_59 : decode b_Mo_thing 59 = .ok (.iload_n 3, 1) := by decide +kernel
theorem d_Mo_thing_60 : decode b_Mo_thing 60 = .ok (.ifCond .eq 32, 3) := by decide +kernel
theorem d_Mo_thing_92 : decode b_Mo_thing 92 = .ok (.iconst 1, 1) := by decide +kernel
theorem d_Mo_thing_93 : decode b_Mo_thing 93 = .ok (.putfield 32, 3) := by decide +kernel
theorem d_Mo_thing_96 : decode b_Mo_thing 96 = .ok (.aload_n 0, 1) := by decide +kernel
theorem d_Mo_thing_97 : decode b_Mo_thing 97 = .ok (.getfield 32, 3) := by decide +kernel
theorem d_Mo_thing_100 : decode b_Mo_thing 100 = .ok (.ifCond .eq 5, 3) := by decide +kernel
theorem d_Mo_thing_103 : decode b_Mo_thing 103 = .ok (.iconst 0, 1) := by decide +kernel
theorem d_Mo_thing_104 : decode b_Mo_thing 104 = .ok (.ireturn, 1) := by decide +kernel
theorem d_Mo_thing_4 : decode b_Mo_thing 4 = .ok (.iload_n 1, 1) := by decide +kernel
theorem d_Mo_thing_5 : decode b_Mo_thing 5 = .ok (.aload_n 0, 1) := by decide +kernel
theorem d_Mo_thing_6 : decode b_Mo_thing 6 = .ok (.getfield 181, 3) := by decide +kernel
theorem d_Mo_thing_9 : decode b_Mo_thing 9 = .ok (.if_icmp .ge 7, 3) := by decide +kernel
set_option maxRecDepth 20000 in
theorem w_680 : Cond.classLink "VaryStore" 170 "java/util/NoSuchElementException" ∈ TB := tb_in 680 (by decide +kernel) (by decide +kernel)
set_option maxRecDepth 20000 in
theorem w_49 : Cond.initialized "java/util/NoSuchElementException" ∈ TB := tb_in 49 (by decide +kernel) (by decide +kernel)
set_option maxRecDepth 100000 in
theorem atN_VS_170_174 : (∀ w ∈ nx_at "VaryStore" 174 "java/util/NoSuchElementException", w ∈ TB ∨ w ∈ NB) ∧ (∀ w ∈ Cond.classLink "VaryStore" 170 "java/util/NoSuchElementException" :: Cond.initialized "java/util/NoSuchElementException" :: nx_at "VaryStore" 174 "java/util/NoSuchElementException", vx_ot w = true) := ⟨by decide +kernel, by decide +kernel⟩
def k_VS_thing : MS := ("VaryStore", b_VS_thing, 4, (some .int), "thing", { frames := 6, cells := 1, slots := 6, locals := 82 }, [])
set_option maxRecDepth 100000 in
set_option maxHeartbeats 4000000 in
theorem c_VS_thing (Γ : GE) (b : Nat) (rq : Nat) (dr : Nat) (fp : Int) (tm : Int) (i : Int) (w : Int) (u : Int) {M : HM} {n : Nat} (i0 : -2147483648 ≤ i) (i1 : i < 2147483648) (p0 : M (b) = some (.inr (0, [.ref (b + 1), .ref (b + 3), .ref (rq), .ref (dr), .int (iI (fp)), .int (iI (tm)), .ref (b + 17), .ref (b + 19), .ref (b + 21), .ref (b + 25), .ref (b + 29)]))) (p1 : M (b + 3) = some (.inr (3, [.ref (b + 4), .int (iI (0)), .int (iI (u))]))) : CX Γ k_VS_thing y_VS_thing [.ref (b), .int (iI (i)), .int (iI (w))] M (n) (fun v M' n' => False) (fun C M' n' => C = "java/util/NoSuchElementException" ∧ n ≤ n' ∧ (∀ q, M' q = M q) ∧ (True)) := by
  refine CX.of (by decide) rfl rfl 1 rfl (Nat.le_of_ble_eq_true rfl) rfl ?_
  refine g_aload_n d_VS_thing_0 rfl ?_
  refine g_get fa_VS_19 d_VS_thing_1 p0 rfl ?_
  refine g_iload_n d_VS_thing_4 rfl ?_
  refine g_callV1 (ν := k_Sh_at0) ⟨w_194, w_32, w_197, by decide, by decide, by decide +kernel⟩ w_195 w_196 (c_Sh_at0 Γ (b + 3) (i) (u) (by omega) (by omega) p1) d_VS_thing_5 p1 rfl rfl ⟨⟨by decide, by decide⟩, ⟨by decide, by decide⟩⟩ (Nat.le_of_ble_eq_true rfl) (fun v1 M1 n1 hQ1 hn1 hd1 => ?_)
  obtain ⟨rfl, hf1, rfl⟩ := hQ1
  refine g_astore_nN d_VS_thing_8 (by decide) rfl ?_
  refine g_aload_nN d_VS_thing_9 rfl ?_
  refine g_ifnonnullN d_VS_thing_10 ?_
  refine g_throwN (lit := 4) (text := "there is no such thing") w_680 w_49 (by decide +kernel) (by decide) atN_VS_170_174.1 atN_VS_170_174.2 d_VS_thing_13 d_VS_thing_16 d_VS_thing_17 d_VS_thing_19 d_VS_thing_22 rfl (by decide) (by decide) (by decide) (by decide) (fun n9 hn9 => ?_)
  exact ⟨rfl, by omega, fun q  => ((hf1 q ).trans rfl), trivial⟩
def k_Mo_thing0 : MS := ("VaryStoreModel", b_Mo_thing, 6, (some .int), "thing", { frames := 0, cells := 0, slots := 0, locals := 0 }, [])
set_option maxRecDepth 100000 in
set_option maxHeartbeats 4000000 in
theorem c_Mo_thing0 (Γ : GE) (r : Nat) (fa : Int) (tm : Int) (th : Int) (ev : Int64) (rq : Nat) (i : Int) (w : Int) {M : HM} {n : Nat} (i0 : -2147483648 ≤ i) (i1 : i < 2147483648) (p0 : M (r) = some (.inr (6, [.ref (r + 1), .int (iI (0)), .int (iI (fa)), .int (iI (tm)), .int (iI (th)), .long (ev), .ref (rq), .ref (r + 7), .int (iI (0))]))) : CT Γ k_Mo_thing0 y_Mo_thing [.ref (r), .int (iI (i)), .int (iI (w))] M (n) (fun v M' n' => n = n' ∧ (∀ q, q ≠ r → M' q = M q) ∧ v = some (.int (iI (0))) ∧ M' (r) = some (.inr (6, [.ref (r + 1), .int (iI (0)), .int (iI (fa)), .int (iI (tm)), .int (iI (1)), .long (ev), .ref (rq), .ref (r + 7), .int (iI (0))]))) := by
  refine CT.of (by decide) rfl rfl 3 rfl (Nat.le_of_ble_eq_true rfl) rfl ?_
  refine g_iload_n d_Mo_thing_0 rfl ?_
  refine g_if_lt (tgt := 16) d_Mo_thing_1 (by decide) (fun h1 => ?_) (fun h1 => ?_)
  · skip
    refine g_iconst d_Mo_thing_16 ?_
    refine g_istore_n d_Mo_thing_17 (by decide) rfl ?_
    refine g_iload_n d_Mo_thing_18 rfl ?_
    refine g_if_eq (tgt := 31) d_Mo_thing_19 (by decide) (fun _ => ?_) (fun h2 => False.elim (by omega))
    refine g_null d_Mo_thing_31 ?_
    refine g_astoreN d_Mo_thing_32 (by decide) rfl ?_
    refine g_iload_n d_Mo_thing_34 rfl ?_
    refine g_if_eq (tgt := 46) d_Mo_thing_35 (by decide) (fun _ => ?_) (fun h3 => False.elim (by omega))
    refine g_iconst d_Mo_thing_46 ?_
    refine g_goto (tgt := 56) d_Mo_thing_47 (by decide) ?_
    refine g_istore d_Mo_thing_56 (by decide) rfl ?_
    refine g_aload_n d_Mo_thing_58 rfl ?_
    refine g_iload_n d_Mo_thing_59 rfl ?_
    refine g_if_eq (tgt := 92) d_Mo_thing_60 (by decide) (fun _ => ?_) (fun h4 => False.elim (by omega))
    refine g_iconst d_Mo_thing_92 ?_
    refine g_put fa_Mo_32 d_Mo_thing_93 p0 (Nat.le_of_ble_eq_true rfl) rfl rfl rfl ?_
    refine g_aload_n d_Mo_thing_96 rfl ?_
    refine g_get fa_Mo_32 d_Mo_thing_97 (hu_same _ _ _) rfl ?_
    refine g_if_eq (tgt := 105) d_Mo_thing_100 (by decide) (fun h5 => False.elim (by omega)) (fun _ => ?_)
    refine g_iconst d_Mo_thing_103 ?_
    refine g_iret d_Mo_thing_104 rfl ?_ (by decide) (by decide)
    exact ⟨rfl, fun q e0 => ((hu_ne (by omega)).trans rfl), rfl, (hu_same _ _ _)⟩
  · skip
    refine g_iload_n d_Mo_thing_4 rfl ?_
    refine g_aload_n d_Mo_thing_5 rfl ?_
    refine g_get fa_Mo_181 d_Mo_thing_6 p0 rfl ?_
    refine g_icmp_ge (tgt := 16) d_Mo_thing_9 (by decide) (fun h6 => ?_) (fun h6 => False.elim (by omega))
    refine g_iconst d_Mo_thing_16 ?_
    refine g_istore_n d_Mo_thing_17 (by decide) rfl ?_
    refine g_iload_n d_Mo_thing_18 rfl ?_
    refine g_if_eq (tgt := 31) d_Mo_thing_19 (by decide) (fun _ => ?_) (fun h7 => False.elim (by omega))
    refine g_null d_Mo_thing_31 ?_
    refine g_astoreN d_Mo_thing_32 (by decide) rfl ?_
    refine g_iload_n d_Mo_thing_34 rfl ?_
    refine g_if_eq (tgt := 46) d_Mo_thing_35 (by decide) (fun _ => ?_) (fun h8 => False.elim (by omega))
    refine g_iconst d_Mo_thing_46 ?_
    refine g_goto (tgt := 56) d_Mo_thing_47 (by decide) ?_
    refine g_istore d_Mo_thing_56 (by decide) rfl ?_
    refine g_aload_n d_Mo_thing_58 rfl ?_
    refine g_iload_n d_Mo_thing_59 rfl ?_
    refine g_if_eq (tgt := 92) d_Mo_thing_60 (by decide) (fun _ => ?_) (fun h9 => False.elim (by omega))
    refine g_iconst d_Mo_thing_92 ?_
    refine g_put fa_Mo_32 d_Mo_thing_93 p0 (Nat.le_of_ble_eq_true rfl) rfl rfl rfl ?_
    refine g_aload_n d_Mo_thing_96 rfl ?_
    refine g_get fa_Mo_32 d_Mo_thing_97 (hu_same _ _ _) rfl ?_
    refine g_if_eq (tgt := 105) d_Mo_thing_100 (by decide) (fun h10 => False.elim (by omega)) (fun _ => ?_)
    refine g_iconst d_Mo_thing_103 ?_
    refine g_iret d_Mo_thing_104 rfl ?_ (by decide) (by decide)
    exact ⟨rfl, fun q e0 => ((hu_ne (by omega)).trans rfl), rfl, (hu_same _ _ _)⟩
