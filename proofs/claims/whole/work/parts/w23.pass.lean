theorem d_Mo_pass_0 : decode b_Mo_pass 0 = .ok (.aload_n 0, 1) := by decide +kernel
theorem d_Mo_pass_1 : decode b_Mo_pass 1 = .ok (.iload_n 1, 1) := by decide +kernel
theorem d_Mo_pass_2 : decode b_Mo_pass 2 = .ok (.iconst 1, 1) := by decide +kernel
theorem d_Mo_pass_3 : decode b_Mo_pass 3 = .ok (.if_icmp .lt 22, 3) := by decide +kernel
theorem d_Mo_pass_6 : decode b_Mo_pass 6 = .ok (.iload_n 1, 1) := by decide +kernel
theorem d_Mo_pass_7 : decode b_Mo_pass 7 = .ok (.ldc_w 274, 3) := by decide +kernel
theorem d_Mo_pass_10 : decode b_Mo_pass 10 = .ok (.if_icmp .gt 15, 3) := by decide +kernel
theorem d_Mo_pass_13 : decode b_Mo_pass 13 = .ok (.aload_n 0, 1) := by decide +kernel
theorem d_Mo_pass_14 : decode b_Mo_pass 14 = .ok (.getfield 164, 3) := by decide +kernel
theorem d_Mo_pass_17 : decode b_Mo_pass 17 = .ok (.iload_n 1, 1) := by decide +kernel
theorem d_Mo_pass_18 : decode b_Mo_pass 18 = .ok (.iadd, 1) := by decide +kernel
theorem d_Mo_pass_19 : decode b_Mo_pass 19 = .ok (.ldc_w 275, 3) := by decide +kernel
theorem d_Mo_pass_22 : decode b_Mo_pass 22 = .ok (.if_icmp .le 7, 3) := by decide +kernel
theorem d_Mo_pass_29 : decode b_Mo_pass 29 = .ok (.iconst 0, 1) := by decide +kernel
theorem d_Mo_pass_30 : decode b_Mo_pass 30 = .ok (.putfield 32, 3) := by decide +kernel
theorem d_Mo_pass_33 : decode b_Mo_pass 33 = .ok (.aload_n 0, 1) := by decide +kernel
theorem d_Mo_pass_34 : decode b_Mo_pass 34 = .ok (.getfield 32, 3) := by decide +kernel
theorem d_Mo_pass_37 : decode b_Mo_pass 37 = .ok (.ifCond .eq 5, 3) := by decide +kernel
theorem d_Mo_pass_42 : decode b_Mo_pass 42 = .ok (.aload_n 0, 1) := by decide +kernel
theorem d_Mo_pass_43 : decode b_Mo_pass 43 = .ok (.dup, 1) := by decide +kernel
theorem d_Mo_pass_44 : decode b_Mo_pass 44 = .ok (.getfield 164, 3) := by decide +kernel
theorem d_Mo_pass_47 : decode b_Mo_pass 47 = .ok (.iload_n 1, 1) := by decide +kernel
theorem d_Mo_pass_48 : decode b_Mo_pass 48 = .ok (.iadd, 1) := by decide +kernel
theorem d_Mo_pass_49 : decode b_Mo_pass 49 = .ok (.putfield 164, 3) := by decide +kernel
theorem d_Mo_pass_52 : decode b_Mo_pass 52 = .ok (.aload_n 0, 1) := by decide +kernel
theorem d_Mo_pass_53 : decode b_Mo_pass 53 = .ok (.getfield 164, 3) := by decide +kernel
theorem d_Mo_pass_56 : decode b_Mo_pass 56 = .ok (.ireturn, 1) := by decide +kernel
theorem d_Mo_pass_25 : decode b_Mo_pass 25 = .ok (.iconst 1, 1) := by decide +kernel
theorem d_Mo_pass_26 : decode b_Mo_pass 26 = .ok (.goto 4, 3) := by decide +kernel
theorem d_Mo_pass_40 : decode b_Mo_pass 40 = .ok (.iconst 0, 1) := by decide +kernel
theorem d_Mo_pass_41 : decode b_Mo_pass 41 = .ok (.ireturn, 1) := by decide +kernel
set_option maxRecDepth 20000 in
theorem w_975 : Cond.constant "VaryStoreModel" 274 100000 ∈ TB := tb_in 975 (by decide +kernel) (by decide +kernel)
set_option maxRecDepth 20000 in
theorem w_976 : Cond.constant "VaryStoreModel" 275 1000000000 ∈ TB := tb_in 976 (by decide +kernel) (by decide +kernel)
theorem g_ldcIW {Γ : GE} {μ : MS} {A : Nat → Prop} {E : List Frame → Array Value → State → State → Prop} {ce sl : Nat} {M : HM} {n pc : Nat} {vs : List (Option Value)} {st : List Value} {is : Nat} {v : Int32} {z : Int} (hw : Cond.constant μ.1 is v ∈ TB) (hz : v = iI z) (hd : decode μ.2.1 pc = .ok (.ldc_w is, 3)) (k : G Γ μ A E ce sl M n (pc + 3) vs (.int (iI z) :: st)) : G Γ μ A E ce sl M n pc vs st := by
  intro p e s m args below meth c H locs ls CC h1 h2 h3 h4 h5
  obtain ⟨c1, c2, c3, c4, c5, c6, c7, c8, c9, c10, c11, c12, c13⟩ := id CC
  subst hz
  exact lv_ldcw c1 c2 c4 (c5 _ hw) hd (k p e s m args below meth c H locs ls CC h1 h2 h3 h4 h5)
def k_Mo_pass1 : MS := ("VaryStoreModel", b_Mo_pass, 2, (some .int), "pass", { frames := 0, cells := 0, slots := 0, locals := 0 }, [])
set_option maxRecDepth 100000 in
set_option maxHeartbeats 4000000 in
theorem c_Mo_pass1 (Γ : GE) (r : Nat) (fa : Int) (th : Int) (ev : Int64) (rq : Nat) (k : Int) {M : HM} {n : Nat} (ka : 1 ≤ k) (kb : k ≤ 100000) (p0 : M (r) = some (.inr (6, [.ref (r + 1), .int (iI (0)), .int (iI (fa)), .int (iI (0)), .int (iI (th)), .long (ev), .ref (rq), .ref (r + 7), .int (iI (0))]))) : CT Γ k_Mo_pass1 y_Mo_pass [.ref (r), .int (iI (k))] M (n) (fun v M' n' => n = n' ∧ (∀ q, q ≠ r → M' q = M q) ∧ v = some (.int (iI ((0 + k)))) ∧ M' (r) = some (.inr (6, [.ref (r + 1), .int (iI (0)), .int (iI (fa)), .int (iI ((0 + k))), .int (iI (0)), .long (ev), .ref (rq), .ref (r + 7), .int (iI (0))]))) := by
  refine CT.of (by decide) rfl rfl 0 rfl (Nat.le_of_ble_eq_true rfl) rfl ?_
  refine g_aload_n d_Mo_pass_0 rfl ?_
  refine g_iload_n d_Mo_pass_1 rfl ?_
  refine g_iconst d_Mo_pass_2 ?_
  refine g_icmp_lt (tgt := 25) d_Mo_pass_3 (by decide) (fun h1 => False.elim (by omega)) (fun h1 => ?_)
  refine g_iload_n d_Mo_pass_6 rfl ?_
  refine g_ldcIW (z := 100000) w_975 rfl d_Mo_pass_7 ?_
  refine g_icmp_gt (tgt := 25) d_Mo_pass_10 (by decide) (fun h2 => False.elim (by omega)) (fun h2 => ?_)
  refine g_aload_n d_Mo_pass_13 rfl ?_
  refine g_get fa_Mo_164 d_Mo_pass_14 p0 rfl ?_
  refine g_iload_n d_Mo_pass_17 rfl ?_
  refine g_iadd d_Mo_pass_18 ?_
  refine g_ldcIW (z := 1000000000) w_976 rfl d_Mo_pass_19 ?_
  refine g_icmp_le (tgt := 29) d_Mo_pass_22 (by decide) (fun h3 => ?_) (fun h3 => False.elim (by omega))
  refine g_iconst d_Mo_pass_29 ?_
  refine g_put fa_Mo_32 d_Mo_pass_30 p0 (Nat.le_of_ble_eq_true rfl) rfl rfl rfl ?_
  refine g_aload_n d_Mo_pass_33 rfl ?_
  refine g_get fa_Mo_32 d_Mo_pass_34 (hu_same _ _ _) rfl ?_
  refine g_if_eq (tgt := 42) d_Mo_pass_37 (by decide) (fun _ => ?_) (fun h4 => False.elim (by omega))
  refine g_aload_n d_Mo_pass_42 rfl ?_
  refine g_dup d_Mo_pass_43 rfl ?_
  refine g_get fa_Mo_164 d_Mo_pass_44 (hu_same _ _ _) rfl ?_
  refine g_iload_n d_Mo_pass_47 rfl ?_
  refine g_iadd d_Mo_pass_48 ?_
  refine g_put fa_Mo_164 d_Mo_pass_49 (hu_same _ _ _) (Nat.le_of_ble_eq_true rfl) rfl rfl rfl ?_
  refine g_aload_n d_Mo_pass_52 rfl ?_
  refine g_get fa_Mo_164 d_Mo_pass_53 (hu_same _ _ _) rfl ?_
  refine g_iret d_Mo_pass_56 rfl ?_ (by decide) (by decide)
  exact ⟨rfl, fun q e0 => ((hu_ne (by omega)).trans ((hu_ne (by omega)).trans rfl)), rfl, (hu_same _ _ _)⟩
def k_Mo_pass0 : MS := ("VaryStoreModel", b_Mo_pass, 2, (some .int), "pass", { frames := 0, cells := 0, slots := 0, locals := 0 }, [])
set_option maxRecDepth 100000 in
set_option maxHeartbeats 4000000 in
theorem c_Mo_pass0 (Γ : GE) (r : Nat) (fa : Int) (th : Int) (ev : Int64) (rq : Nat) (k : Int) {M : HM} {n : Nat} (ka : -2147483648 ≤ k) (kb : k < 2147483648) (kc : ¬ (1 ≤ k ∧ k ≤ 100000)) (p0 : M (r) = some (.inr (6, [.ref (r + 1), .int (iI (0)), .int (iI (fa)), .int (iI (0)), .int (iI (th)), .long (ev), .ref (rq), .ref (r + 7), .int (iI (0))]))) : CT Γ k_Mo_pass0 y_Mo_pass [.ref (r), .int (iI (k))] M (n) (fun v M' n' => n = n' ∧ (∀ q, q ≠ r → M' q = M q) ∧ v = some (.int (iI (0))) ∧ M' (r) = some (.inr (6, [.ref (r + 1), .int (iI (0)), .int (iI (fa)), .int (iI (0)), .int (iI (1)), .long (ev), .ref (rq), .ref (r + 7), .int (iI (0))]))) := by
  refine CT.of (by decide) rfl rfl 0 rfl (Nat.le_of_ble_eq_true rfl) rfl ?_
  refine g_aload_n d_Mo_pass_0 rfl ?_
  refine g_iload_n d_Mo_pass_1 rfl ?_
  refine g_iconst d_Mo_pass_2 ?_
  refine g_icmp_lt (tgt := 25) d_Mo_pass_3 (by decide) (fun h1 => ?_) (fun h1 => ?_)
  · skip
    refine g_iconst d_Mo_pass_25 ?_
    refine g_goto (tgt := 30) d_Mo_pass_26 (by decide) ?_
    refine g_put fa_Mo_32 d_Mo_pass_30 p0 (Nat.le_of_ble_eq_true rfl) rfl rfl rfl ?_
    refine g_aload_n d_Mo_pass_33 rfl ?_
    refine g_get fa_Mo_32 d_Mo_pass_34 (hu_same _ _ _) rfl ?_
    refine g_if_eq (tgt := 42) d_Mo_pass_37 (by decide) (fun h2 => False.elim (by omega)) (fun _ => ?_)
    refine g_iconst d_Mo_pass_40 ?_
    refine g_iret d_Mo_pass_41 rfl ?_ (by decide) (by decide)
    exact ⟨rfl, fun q e0 => ((hu_ne (by omega)).trans rfl), rfl, (hu_same _ _ _)⟩
  · skip
    refine g_iload_n d_Mo_pass_6 rfl ?_
    refine g_ldcIW (z := 100000) w_975 rfl d_Mo_pass_7 ?_
    refine g_icmp_gt (tgt := 25) d_Mo_pass_10 (by decide) (fun h3 => ?_) (fun h3 => False.elim (by omega))
    refine g_iconst d_Mo_pass_25 ?_
    refine g_goto (tgt := 30) d_Mo_pass_26 (by decide) ?_
    refine g_put fa_Mo_32 d_Mo_pass_30 p0 (Nat.le_of_ble_eq_true rfl) rfl rfl rfl ?_
    refine g_aload_n d_Mo_pass_33 rfl ?_
    refine g_get fa_Mo_32 d_Mo_pass_34 (hu_same _ _ _) rfl ?_
    refine g_if_eq (tgt := 42) d_Mo_pass_37 (by decide) (fun h4 => False.elim (by omega)) (fun _ => ?_)
    refine g_iconst d_Mo_pass_40 ?_
    refine g_iret d_Mo_pass_41 rfl ?_ (by decide) (by decide)
    exact ⟨rfl, fun q e0 => ((hu_ne (by omega)).trans rfl), rfl, (hu_same _ _ _)⟩
