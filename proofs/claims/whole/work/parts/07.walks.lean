def k_Ro_init : MS := ("VaryStore$Row", b_Ro_init, 1, none, "<init>", { frames := 1, cells := 1, slots := 300, locals := 12 }, [])
set_option maxRecDepth 100000 in
set_option maxHeartbeats 4000000 in
theorem c_Ro_init (Γ : GE) (a : Nat) {M : HM}  (p0 : M (a) = some (.inr (2, [.null, .int (iI (0))]))) : CT Γ k_Ro_init y_Ro_init [.ref (a)] M (a + 1) (fun v M' n' => a + 2 = n' ∧ (∀ q, q ≠ a + 1 → q ≠ a → M' q = M q) ∧ v = none ∧ M' (a + 1) = some (.inl (Γ.2.2.1 0, 300, .inl (fun _ => iI 0))) ∧ M' (a) = some (.inr (2, [.ref (a + 1), .int (iI (0))]))) := by
  refine CT.of (by decide) rfl rfl 0 rfl (Nat.le_of_ble_eq_true rfl) rfl ?_
  refine g_aload_n d_Ro_init_0 rfl ?_
  refine g_objInit d_Ro_init_1 w_63 w_56 w_57 (by decide) (Nat.le_of_ble_eq_true rfl) ?_
  refine g_aload_n d_Ro_init_4 rfl ?_
  refine g_sipush d_Ro_init_5 (by decide) ?_
  refine g_newac (k := 300) d_Ro_init_8 w_74 (by decide) (by decide) (by decide) ?_
  refine g_putF fa_Ro_9 d_Ro_init_10 ((hu_ne (by omega)).trans p0) (Nat.le_of_ble_eq_true rfl) rfl w_64 rfl rfl rfl rfl ?_
  refine g_aload_n d_Ro_init_13 rfl ?_
  refine g_iconst d_Ro_init_14 ?_
  refine g_put fa_Ro_15 d_Ro_init_15 (hu_same _ _ _) (Nat.le_of_ble_eq_true rfl) rfl rfl rfl ?_
  refine g_vret d_Ro_init_18 rfl ?_ (by decide) (by decide)
  exact ⟨rfl, fun q e0 e1 => ((hu_ne (by omega)).trans ((hu_ne (by omega)).trans ((hu_ne (by omega)).trans rfl))), rfl, ((hu_ne (by omega)).trans ((hu_ne (by omega)).trans (hu_same _ _ _))), (hu_same _ _ _)⟩
def k_It_init : MS := ("VaryStore$Items", b_It_init, 1, none, "<init>", { frames := 2, cells := 3, slots := 452, locals := 32 }, [])
set_option maxRecDepth 100000 in
set_option maxHeartbeats 4000000 in
theorem c_It_init (Γ : GE) (a : Nat) {M : HM}  (p0 : M (a) = some (.inr (1, [.null, .null, .int (iI (0))]))) : CT Γ k_It_init y_It_init [.ref (a)] M (a + 1) (fun v M' n' => a + 4 = n' ∧ (∀ q, q ≠ a + 1 → q ≠ a + 2 → q ≠ a → q ≠ a + 3 → M' q = M q) ∧ v = none ∧ M' (a + 1) = some (.inr (2, [.ref (a + 2), .int (iI (0))])) ∧ M' (a + 2) = some (.inl (Γ.2.2.1 0, 300, .inl (fun _ => iI 0))) ∧ M' (a) = some (.inr (1, [.ref (a + 1), .ref (a + 3), .int (iI (0))])) ∧ M' (a + 3) = some (.inl (Γ.2.2.1 1, 150, .inl (fun _ => iI 0)))) := by
  refine CT.of (by decide) rfl rfl 0 rfl (Nat.le_of_ble_eq_true rfl) rfl ?_
  refine g_aload_n d_It_init_0 rfl ?_
  refine g_objInit d_It_init_1 w_124 w_56 w_57 (by decide) (Nat.le_of_ble_eq_true rfl) ?_
  refine g_aload_n d_It_init_4 rfl ?_
  refine g_new (ci := 2) t_Ro [.null, .int (iI (0))] rfl uw_Ro to_Ro (fun j hj => by rcases (show j = 0 ∨ j = 1 by omega) with rfl | rfl <;> rfl) d_It_init_5 w_125 w_59 w_31 (by decide) (by decide) ?_
  refine g_dup d_It_init_8 rfl ?_
  refine g_callIN0 (ν := k_Ro_init) ⟨⟨"VaryStore", w_126⟩, w_31, w_62, by decide, by decide, by decide +kernel⟩ w_61 rfl rfl (c_Ro_init Γ (a + 1)  (hu_same _ _ _)) d_It_init_9 ⟨⟨by decide, by decide⟩, ⟨by decide, by decide⟩⟩ (Nat.le_of_ble_eq_true rfl) (fun v1 M1 n1 hQ1 hn1 hd1 => ?_)
  obtain ⟨rfl, hf1, rfl, hw1_0, hw1_1⟩ := hQ1
  refine g_putF fa_It_12 d_It_init_12 ((hf1 (a) (by omega) (by omega)).trans ((hu_ne (by omega)).trans p0)) (Nat.le_of_ble_eq_true rfl) rfl w_127 rfl rfl rfl rfl ?_
  refine g_aload_n d_It_init_15 rfl ?_
  refine g_sipush d_It_init_16 (by decide) ?_
  refine g_newai (k := 150) d_It_init_19 w_118 (by decide) (by decide) (by decide) ?_
  refine g_putF fa_It_18 d_It_init_21 ((hu_ne (by omega)).trans (hu_same _ _ _)) (Nat.le_of_ble_eq_true rfl) rfl w_128 rfl rfl rfl rfl ?_
  refine g_aload_n d_It_init_24 rfl ?_
  refine g_iconst d_It_init_25 ?_
  refine g_put fa_It_22 d_It_init_26 (hu_same _ _ _) (Nat.le_of_ble_eq_true rfl) rfl rfl rfl ?_
  refine g_vret d_It_init_29 rfl ?_ (by decide) (by decide)
  exact ⟨rfl, fun q e0 e1 e2 e3 => ((hu_ne (by omega)).trans ((hu_ne (by omega)).trans ((hu_ne (by omega)).trans ((hu_ne (by omega)).trans ((hf1 q (by omega) (by omega)).trans ((hu_ne (by omega)).trans rfl)))))), rfl, ((hu_ne (by omega)).trans ((hu_ne (by omega)).trans ((hu_ne (by omega)).trans ((hu_ne (by omega)).trans hw1_1)))), ((hu_ne (by omega)).trans ((hu_ne (by omega)).trans ((hu_ne (by omega)).trans ((hu_ne (by omega)).trans hw1_0)))), (hu_same _ _ _), ((hu_ne (by omega)).trans ((hu_ne (by omega)).trans (hu_same _ _ _)))⟩
def k_Te_init : MS := ("VaryStore$Text", b_Te_init, 1, none, "<init>", { frames := 2, cells := 5, slots := 602, locals := 32 }, [])
set_option maxRecDepth 100000 in
set_option maxHeartbeats 4000000 in
theorem c_Te_init (Γ : GE) (a : Nat) {M : HM}  (p0 : M (a) = some (.inr (4, [.null, .null, .null, .null, .int (iI (0))]))) : CT Γ k_Te_init y_Te_init [.ref (a)] M (a + 1) (fun v M' n' => a + 6 = n' ∧ (∀ q, q ≠ a + 1 → q ≠ a + 2 → q ≠ a → q ≠ a + 3 → q ≠ a + 4 → q ≠ a + 5 → M' q = M q) ∧ v = none ∧ M' (a + 1) = some (.inr (2, [.ref (a + 2), .int (iI (0))])) ∧ M' (a + 2) = some (.inl (Γ.2.2.1 0, 300, .inl (fun _ => iI 0))) ∧ M' (a) = some (.inr (4, [.ref (a + 1), .ref (a + 3), .ref (a + 4), .ref (a + 5), .int (iI (0))])) ∧ M' (a + 3) = some (.inl (Γ.2.2.1 1, 100, .inl (fun _ => iI 0))) ∧ M' (a + 4) = some (.inl (Γ.2.2.1 1, 100, .inl (fun _ => iI 0))) ∧ M' (a + 5) = some (.inl (Γ.2.2.1 1, 100, .inl (fun _ => iI 0)))) := by
  refine CT.of (by decide) rfl rfl 0 rfl (Nat.le_of_ble_eq_true rfl) rfl ?_
  refine g_aload_n d_Te_init_0 rfl ?_
  refine g_objInit d_Te_init_1 w_99 w_56 w_57 (by decide) (Nat.le_of_ble_eq_true rfl) ?_
  refine g_aload_n d_Te_init_4 rfl ?_
  refine g_new (ci := 2) t_Ro [.null, .int (iI (0))] rfl uw_Ro to_Ro (fun j hj => by rcases (show j = 0 ∨ j = 1 by omega) with rfl | rfl <;> rfl) d_Te_init_5 w_100 w_59 w_31 (by decide) (by decide) ?_
  refine g_dup d_Te_init_8 rfl ?_
  refine g_callIN0 (ν := k_Ro_init) ⟨⟨"VaryStore", w_101⟩, w_31, w_62, by decide, by decide, by decide +kernel⟩ w_61 rfl rfl (c_Ro_init Γ (a + 1)  (hu_same _ _ _)) d_Te_init_9 ⟨⟨by decide, by decide⟩, ⟨by decide, by decide⟩⟩ (Nat.le_of_ble_eq_true rfl) (fun v1 M1 n1 hQ1 hn1 hd1 => ?_)
  obtain ⟨rfl, hf1, rfl, hw1_0, hw1_1⟩ := hQ1
  refine g_putF fa_Te_12 d_Te_init_12 ((hf1 (a) (by omega) (by omega)).trans ((hu_ne (by omega)).trans p0)) (Nat.le_of_ble_eq_true rfl) rfl w_102 rfl rfl rfl rfl ?_
  refine g_aload_n d_Te_init_15 rfl ?_
  refine g_bipush d_Te_init_16 (by decide) ?_
  refine g_newai (k := 100) d_Te_init_18 w_118 (by decide) (by decide) (by decide) ?_
  refine g_putF fa_Te_18 d_Te_init_20 ((hu_ne (by omega)).trans (hu_same _ _ _)) (Nat.le_of_ble_eq_true rfl) rfl w_103 rfl rfl rfl rfl ?_
  refine g_aload_n d_Te_init_23 rfl ?_
  refine g_bipush d_Te_init_24 (by decide) ?_
  refine g_newai (k := 100) d_Te_init_26 w_118 (by decide) (by decide) (by decide) ?_
  refine g_putF fa_Te_22 d_Te_init_28 ((hu_ne (by omega)).trans (hu_same _ _ _)) (Nat.le_of_ble_eq_true rfl) rfl w_104 rfl rfl rfl rfl ?_
  refine g_aload_n d_Te_init_31 rfl ?_
  refine g_bipush d_Te_init_32 (by decide) ?_
  refine g_newai (k := 100) d_Te_init_34 w_118 (by decide) (by decide) (by decide) ?_
  refine g_putF fa_Te_25 d_Te_init_36 ((hu_ne (by omega)).trans (hu_same _ _ _)) (Nat.le_of_ble_eq_true rfl) rfl w_105 rfl rfl rfl rfl ?_
  refine g_aload_n d_Te_init_39 rfl ?_
  refine g_iconst d_Te_init_40 ?_
  refine g_put fa_Te_28 d_Te_init_41 (hu_same _ _ _) (Nat.le_of_ble_eq_true rfl) rfl rfl rfl ?_
  refine g_vret d_Te_init_44 rfl ?_ (by decide) (by decide)
  exact ⟨rfl, fun q e0 e1 e2 e3 e4 e5 => ((hu_ne (by omega)).trans ((hu_ne (by omega)).trans ((hu_ne (by omega)).trans ((hu_ne (by omega)).trans ((hu_ne (by omega)).trans ((hu_ne (by omega)).trans ((hu_ne (by omega)).trans ((hu_ne (by omega)).trans ((hf1 q (by omega) (by omega)).trans ((hu_ne (by omega)).trans rfl)))))))))), rfl, ((hu_ne (by omega)).trans ((hu_ne (by omega)).trans ((hu_ne (by omega)).trans ((hu_ne (by omega)).trans ((hu_ne (by omega)).trans ((hu_ne (by omega)).trans ((hu_ne (by omega)).trans ((hu_ne (by omega)).trans hw1_1)))))))), ((hu_ne (by omega)).trans ((hu_ne (by omega)).trans ((hu_ne (by omega)).trans ((hu_ne (by omega)).trans ((hu_ne (by omega)).trans ((hu_ne (by omega)).trans ((hu_ne (by omega)).trans ((hu_ne (by omega)).trans hw1_0)))))))), (hu_same _ _ _), ((hu_ne (by omega)).trans ((hu_ne (by omega)).trans ((hu_ne (by omega)).trans ((hu_ne (by omega)).trans ((hu_ne (by omega)).trans ((hu_ne (by omega)).trans (hu_same _ _ _))))))), ((hu_ne (by omega)).trans ((hu_ne (by omega)).trans ((hu_ne (by omega)).trans ((hu_ne (by omega)).trans (hu_same _ _ _))))), ((hu_ne (by omega)).trans ((hu_ne (by omega)).trans (hu_same _ _ _)))⟩
def k_Sh_init : MS := ("VaryStore$Shelf", b_Sh_init, 1, none, "<init>", { frames := 1, cells := 1, slots := 25, locals := 12 }, [])
set_option maxRecDepth 100000 in
set_option maxHeartbeats 4000000 in
theorem c_Sh_init (Γ : GE) (a : Nat) {M : HM}  (p0 : M (a) = some (.inr (3, [.null, .int (iI (0)), .int (iI (0))]))) : CT Γ k_Sh_init y_Sh_init [.ref (a)] M (a + 1) (fun v M' n' => a + 2 = n' ∧ (∀ q, q ≠ a + 1 → q ≠ a → M' q = M q) ∧ v = none ∧ M' (a + 1) = some (.inl (Γ.2.2.1 2, 25, .inr (.inr (.inr (.inr (fun _ => none)))))) ∧ M' (a) = some (.inr (3, [.ref (a + 1), .int (iI (0)), .int (iI (0))]))) := by
  refine CT.of (by decide) rfl rfl 0 rfl (Nat.le_of_ble_eq_true rfl) rfl ?_
  refine g_aload_n d_Sh_init_0 rfl ?_
  refine g_objInit d_Sh_init_1 w_80 w_56 w_57 (by decide) (Nat.le_of_ble_eq_true rfl) ?_
  refine g_aload_n d_Sh_init_4 rfl ?_
  refine g_bipush d_Sh_init_5 (by decide) ?_
  refine g_anew (k := 25) 2 rfl d_Sh_init_7 w_81 w_82 (by decide) (by decide) (by decide) ?_
  refine g_putF fa_Sh_11 d_Sh_init_10 ((hu_ne (by omega)).trans p0) (Nat.le_of_ble_eq_true rfl) rfl w_83 rfl rfl rfl rfl ?_
  refine g_aload_n d_Sh_init_13 rfl ?_
  refine g_iconst d_Sh_init_14 ?_
  refine g_put fa_Sh_17 d_Sh_init_15 (hu_same _ _ _) (Nat.le_of_ble_eq_true rfl) rfl rfl rfl ?_
  refine g_aload_n d_Sh_init_18 rfl ?_
  refine g_iconst d_Sh_init_19 ?_
  refine g_put fa_Sh_21 d_Sh_init_20 (hu_same _ _ _) (Nat.le_of_ble_eq_true rfl) rfl rfl rfl ?_
  refine g_vret d_Sh_init_23 rfl ?_ (by decide) (by decide)
  exact ⟨rfl, fun q e0 e1 => ((hu_ne (by omega)).trans ((hu_ne (by omega)).trans ((hu_ne (by omega)).trans ((hu_ne (by omega)).trans rfl)))), rfl, ((hu_ne (by omega)).trans ((hu_ne (by omega)).trans ((hu_ne (by omega)).trans (hu_same _ _ _)))), (hu_same _ _ _)⟩
def k_Th_init : MS := ("VaryStore$Thing", b_Th_init, 1, none, "<init>", { frames := 3, cells := 12, slots := 1364, locals := 52 }, [])
set_option maxRecDepth 100000 in
set_option maxHeartbeats 4000000 in
theorem c_Th_init (Γ : GE) (a : Nat) {M : HM}  (p0 : M (a) = some (.inr (5, [.null, .null, .null, .int (iI (0)), .int (iI (0)), .int (iI (0)), .int (iI (0)), .int (iI (0)), .int (iI (0)), .int (iI (0)), .int (iI (0)), .int (iI (0)), .int (iI (0))]))) : CT Γ k_Th_init y_Th_init [.ref (a)] M (a + 1) (fun v M' n' => a + 13 = n' ∧ (∀ q, q ≠ a + 1 → q ≠ a + 2 → q ≠ a → q ≠ a + 3 → q ≠ a + 4 → q ≠ a + 5 → q ≠ a + 6 → q ≠ a + 7 → q ≠ a + 8 → q ≠ a + 9 → q ≠ a + 10 → q ≠ a + 11 → q ≠ a + 12 → M' q = M q) ∧ v = none ∧ M' (a + 1) = some (.inr (2, [.ref (a + 2), .int (iI (0))])) ∧ M' (a + 2) = some (.inl (Γ.2.2.1 0, 300, .inl (fun _ => iI 0))) ∧ M' (a) = some (.inr (5, [.ref (a + 1), .ref (a + 3), .ref (a + 7), .int (iI (0)), .int (iI ((-2))), .int (iI ((-2))), .int (iI (0)), .int (iI (0)), .int (iI (0)), .int (iI (0)), .int (iI (0)), .int (iI (0)), .int (iI (0))])) ∧ M' (a + 3) = some (.inr (1, [.ref (a + 4), .ref (a + 6), .int (iI (0))])) ∧ M' (a + 4) = some (.inr (2, [.ref (a + 5), .int (iI (0))])) ∧ M' (a + 5) = some (.inl (Γ.2.2.1 0, 300, .inl (fun _ => iI 0))) ∧ M' (a + 6) = some (.inl (Γ.2.2.1 1, 150, .inl (fun _ => iI 0))) ∧ M' (a + 7) = some (.inr (4, [.ref (a + 8), .ref (a + 10), .ref (a + 11), .ref (a + 12), .int (iI (0))])) ∧ M' (a + 8) = some (.inr (2, [.ref (a + 9), .int (iI (0))])) ∧ M' (a + 9) = some (.inl (Γ.2.2.1 0, 300, .inl (fun _ => iI 0))) ∧ M' (a + 10) = some (.inl (Γ.2.2.1 1, 100, .inl (fun _ => iI 0))) ∧ M' (a + 11) = some (.inl (Γ.2.2.1 1, 100, .inl (fun _ => iI 0))) ∧ M' (a + 12) = some (.inl (Γ.2.2.1 1, 100, .inl (fun _ => iI 0)))) := by
  refine CT.of (by decide) rfl rfl 0 rfl (Nat.le_of_ble_eq_true rfl) rfl ?_
  refine g_aload_n d_Th_init_0 rfl ?_
  refine g_objInit d_Th_init_1 w_518 w_56 w_57 (by decide) (Nat.le_of_ble_eq_true rfl) ?_
  refine g_aload_n d_Th_init_4 rfl ?_
  refine g_new (ci := 2) t_Ro [.null, .int (iI (0))] rfl uw_Ro to_Ro (fun j hj => by rcases (show j = 0 ∨ j = 1 by omega) with rfl | rfl <;> rfl) d_Th_init_5 w_519 w_59 w_31 (by decide) (by decide) ?_
  refine g_dup d_Th_init_8 rfl ?_
  refine g_callIN0 (ν := k_Ro_init) ⟨⟨"VaryStore", w_520⟩, w_31, w_62, by decide, by decide, by decide +kernel⟩ w_61 rfl rfl (c_Ro_init Γ (a + 1)  (hu_same _ _ _)) d_Th_init_9 ⟨⟨by decide, by decide⟩, ⟨by decide, by decide⟩⟩ (Nat.le_of_ble_eq_true rfl) (fun v1 M1 n1 hQ1 hn1 hd1 => ?_)
  obtain ⟨rfl, hf1, rfl, hw1_0, hw1_1⟩ := hQ1
  refine g_putF fa_Th_12 d_Th_init_12 ((hf1 (a) (by omega) (by omega)).trans ((hu_ne (by omega)).trans p0)) (Nat.le_of_ble_eq_true rfl) rfl w_525 rfl rfl rfl rfl ?_
  refine g_aload_n d_Th_init_15 rfl ?_
  refine g_new (ci := 1) t_It [.null, .null, .int (iI (0))] rfl uw_It to_It (fun j hj => by rcases (show j = 0 ∨ j = 1 ∨ j = 2 by omega) with rfl | rfl | rfl <;> rfl) d_Th_init_16 w_521 w_120 w_34 (by decide) (by decide) ?_
  refine g_dup d_Th_init_19 rfl ?_
  refine g_callIN0 (ν := k_It_init) ⟨⟨"VaryStore", w_522⟩, w_34, w_123, by decide, by decide, by decide +kernel⟩ w_122 rfl rfl (c_It_init Γ (a + 3)  (hu_same _ _ _)) d_Th_init_20 ⟨⟨by decide, by decide⟩, ⟨by decide, by decide⟩⟩ (Nat.le_of_ble_eq_true rfl) (fun v2 M2 n2 hQ2 hn2 hd2 => ?_)
  obtain ⟨rfl, hf2, rfl, hw2_0, hw2_1, hw2_2, hw2_3⟩ := hQ2
  refine g_putF fa_Th_21 d_Th_init_23 ((hf2 (a) (by omega) (by omega) (by omega) (by omega)).trans ((hu_ne (by omega)).trans (hu_same _ _ _))) (Nat.le_of_ble_eq_true rfl) rfl w_527 rfl rfl rfl rfl ?_
  refine g_aload_n d_Th_init_26 rfl ?_
  refine g_new (ci := 4) t_Te [.null, .null, .null, .null, .int (iI (0))] rfl uw_Te to_Te (fun j hj => by rcases (show j = 0 ∨ j = 1 ∨ j = 2 ∨ j = 3 ∨ j = 4 by omega) with rfl | rfl | rfl | rfl | rfl <;> rfl) d_Th_init_27 w_523 w_95 w_33 (by decide) (by decide) ?_
  refine g_dup d_Th_init_30 rfl ?_
  refine g_callIN0 (ν := k_Te_init) ⟨⟨"VaryStore", w_524⟩, w_33, w_98, by decide, by decide, by decide +kernel⟩ w_97 rfl rfl (c_Te_init Γ (a + 7)  (hu_same _ _ _)) d_Th_init_31 ⟨⟨by decide, by decide⟩, ⟨by decide, by decide⟩⟩ (Nat.le_of_ble_eq_true rfl) (fun v3 M3 n3 hQ3 hn3 hd3 => ?_)
  obtain ⟨rfl, hf3, rfl, hw3_0, hw3_1, hw3_2, hw3_3, hw3_4, hw3_5⟩ := hQ3
  refine g_putF fa_Th_28 d_Th_init_34 ((hf3 (a) (by omega) (by omega) (by omega) (by omega) (by omega) (by omega)).trans ((hu_ne (by omega)).trans (hu_same _ _ _))) (Nat.le_of_ble_eq_true rfl) rfl w_529 rfl rfl rfl rfl ?_
  refine g_aload_n d_Th_init_37 rfl ?_
  refine g_iconst d_Th_init_38 ?_
  refine g_put fa_Th_32 d_Th_init_39 (hu_same _ _ _) (Nat.le_of_ble_eq_true rfl) rfl rfl rfl ?_
  refine g_aload_n d_Th_init_42 rfl ?_
  refine g_bipush d_Th_init_43 (by decide) ?_
  refine g_put fa_Th_36 d_Th_init_45 (hu_same _ _ _) (Nat.le_of_ble_eq_true rfl) rfl rfl rfl ?_
  refine g_aload_n d_Th_init_48 rfl ?_
  refine g_bipush d_Th_init_49 (by decide) ?_
  refine g_put fa_Th_39 d_Th_init_51 (hu_same _ _ _) (Nat.le_of_ble_eq_true rfl) rfl rfl rfl ?_
  refine g_aload_n d_Th_init_54 rfl ?_
  refine g_iconst d_Th_init_55 ?_
  refine g_put fa_Th_42 d_Th_init_56 (hu_same _ _ _) (Nat.le_of_ble_eq_true rfl) rfl (by first | rfl | decide) rfl ?_
  refine g_aload_n d_Th_init_59 rfl ?_
  refine g_iconst d_Th_init_60 ?_
  refine g_put fa_Th_46 d_Th_init_61 (hu_same _ _ _) (Nat.le_of_ble_eq_true rfl) rfl (by first | rfl | decide) rfl ?_
  refine g_aload_n d_Th_init_64 rfl ?_
  refine g_iconst d_Th_init_65 ?_
  refine g_put fa_Th_49 d_Th_init_66 (hu_same _ _ _) (Nat.le_of_ble_eq_true rfl) rfl (by first | rfl | decide) rfl ?_
  refine g_aload_n d_Th_init_69 rfl ?_
  refine g_iconst d_Th_init_70 ?_
  refine g_put fa_Th_52 d_Th_init_71 (hu_same _ _ _) (Nat.le_of_ble_eq_true rfl) rfl rfl rfl ?_
  refine g_aload_n d_Th_init_74 rfl ?_
  refine g_iconst d_Th_init_75 ?_
  refine g_put fa_Th_55 d_Th_init_76 (hu_same _ _ _) (Nat.le_of_ble_eq_true rfl) rfl rfl rfl ?_
  refine g_aload_n d_Th_init_79 rfl ?_
  refine g_iconst d_Th_init_80 ?_
  refine g_put fa_Th_58 d_Th_init_81 (hu_same _ _ _) (Nat.le_of_ble_eq_true rfl) rfl rfl rfl ?_
  refine g_aload_n d_Th_init_84 rfl ?_
  refine g_iconst d_Th_init_85 ?_
  refine g_put fa_Th_61 d_Th_init_86 (hu_same _ _ _) (Nat.le_of_ble_eq_true rfl) rfl rfl rfl ?_
  refine g_vret d_Th_init_89 rfl ?_ (by decide) (by decide)
  exact ⟨rfl, fun q e0 e1 e2 e3 e4 e5 e6 e7 e8 e9 e10 e11 e12 => ((hu_ne (by omega)).trans ((hu_ne (by omega)).trans ((hu_ne (by omega)).trans ((hu_ne (by omega)).trans ((hu_ne (by omega)).trans ((hu_ne (by omega)).trans ((hu_ne (by omega)).trans ((hu_ne (by omega)).trans ((hu_ne (by omega)).trans ((hu_ne (by omega)).trans ((hu_ne (by omega)).trans ((hf3 q (by omega) (by omega) (by omega) (by omega) (by omega) (by omega)).trans ((hu_ne (by omega)).trans ((hu_ne (by omega)).trans ((hf2 q (by omega) (by omega) (by omega) (by omega)).trans ((hu_ne (by omega)).trans ((hu_ne (by omega)).trans ((hf1 q (by omega) (by omega)).trans ((hu_ne (by omega)).trans rfl))))))))))))))))))), rfl, ((hu_ne (by omega)).trans ((hu_ne (by omega)).trans ((hu_ne (by omega)).trans ((hu_ne (by omega)).trans ((hu_ne (by omega)).trans ((hu_ne (by omega)).trans ((hu_ne (by omega)).trans ((hu_ne (by omega)).trans ((hu_ne (by omega)).trans ((hu_ne (by omega)).trans ((hu_ne (by omega)).trans ((hf3 (a + 1) (by omega) (by omega) (by omega) (by omega) (by omega) (by omega)).trans ((hu_ne (by omega)).trans ((hu_ne (by omega)).trans ((hf2 (a + 1) (by omega) (by omega) (by omega) (by omega)).trans ((hu_ne (by omega)).trans ((hu_ne (by omega)).trans hw1_1))))))))))))))))), ((hu_ne (by omega)).trans ((hu_ne (by omega)).trans ((hu_ne (by omega)).trans ((hu_ne (by omega)).trans ((hu_ne (by omega)).trans ((hu_ne (by omega)).trans ((hu_ne (by omega)).trans ((hu_ne (by omega)).trans ((hu_ne (by omega)).trans ((hu_ne (by omega)).trans ((hu_ne (by omega)).trans ((hf3 (a + 2) (by omega) (by omega) (by omega) (by omega) (by omega) (by omega)).trans ((hu_ne (by omega)).trans ((hu_ne (by omega)).trans ((hf2 (a + 2) (by omega) (by omega) (by omega) (by omega)).trans ((hu_ne (by omega)).trans ((hu_ne (by omega)).trans hw1_0))))))))))))))))), (hu_same _ _ _), ((hu_ne (by omega)).trans ((hu_ne (by omega)).trans ((hu_ne (by omega)).trans ((hu_ne (by omega)).trans ((hu_ne (by omega)).trans ((hu_ne (by omega)).trans ((hu_ne (by omega)).trans ((hu_ne (by omega)).trans ((hu_ne (by omega)).trans ((hu_ne (by omega)).trans ((hu_ne (by omega)).trans ((hf3 (a + 3) (by omega) (by omega) (by omega) (by omega) (by omega) (by omega)).trans ((hu_ne (by omega)).trans ((hu_ne (by omega)).trans hw2_2)))))))))))))), ((hu_ne (by omega)).trans ((hu_ne (by omega)).trans ((hu_ne (by omega)).trans ((hu_ne (by omega)).trans ((hu_ne (by omega)).trans ((hu_ne (by omega)).trans ((hu_ne (by omega)).trans ((hu_ne (by omega)).trans ((hu_ne (by omega)).trans ((hu_ne (by omega)).trans ((hu_ne (by omega)).trans ((hf3 (a + 4) (by omega) (by omega) (by omega) (by omega) (by omega) (by omega)).trans ((hu_ne (by omega)).trans ((hu_ne (by omega)).trans hw2_0)))))))))))))), ((hu_ne (by omega)).trans ((hu_ne (by omega)).trans ((hu_ne (by omega)).trans ((hu_ne (by omega)).trans ((hu_ne (by omega)).trans ((hu_ne (by omega)).trans ((hu_ne (by omega)).trans ((hu_ne (by omega)).trans ((hu_ne (by omega)).trans ((hu_ne (by omega)).trans ((hu_ne (by omega)).trans ((hf3 (a + 5) (by omega) (by omega) (by omega) (by omega) (by omega) (by omega)).trans ((hu_ne (by omega)).trans ((hu_ne (by omega)).trans hw2_1)))))))))))))), ((hu_ne (by omega)).trans ((hu_ne (by omega)).trans ((hu_ne (by omega)).trans ((hu_ne (by omega)).trans ((hu_ne (by omega)).trans ((hu_ne (by omega)).trans ((hu_ne (by omega)).trans ((hu_ne (by omega)).trans ((hu_ne (by omega)).trans ((hu_ne (by omega)).trans ((hu_ne (by omega)).trans ((hf3 (a + 6) (by omega) (by omega) (by omega) (by omega) (by omega) (by omega)).trans ((hu_ne (by omega)).trans ((hu_ne (by omega)).trans hw2_3)))))))))))))), ((hu_ne (by omega)).trans ((hu_ne (by omega)).trans ((hu_ne (by omega)).trans ((hu_ne (by omega)).trans ((hu_ne (by omega)).trans ((hu_ne (by omega)).trans ((hu_ne (by omega)).trans ((hu_ne (by omega)).trans ((hu_ne (by omega)).trans ((hu_ne (by omega)).trans ((hu_ne (by omega)).trans hw3_2))))))))))), ((hu_ne (by omega)).trans ((hu_ne (by omega)).trans ((hu_ne (by omega)).trans ((hu_ne (by omega)).trans ((hu_ne (by omega)).trans ((hu_ne (by omega)).trans ((hu_ne (by omega)).trans ((hu_ne (by omega)).trans ((hu_ne (by omega)).trans ((hu_ne (by omega)).trans ((hu_ne (by omega)).trans hw3_0))))))))))), ((hu_ne (by omega)).trans ((hu_ne (by omega)).trans ((hu_ne (by omega)).trans ((hu_ne (by omega)).trans ((hu_ne (by omega)).trans ((hu_ne (by omega)).trans ((hu_ne (by omega)).trans ((hu_ne (by omega)).trans ((hu_ne (by omega)).trans ((hu_ne (by omega)).trans ((hu_ne (by omega)).trans hw3_1))))))))))), ((hu_ne (by omega)).trans ((hu_ne (by omega)).trans ((hu_ne (by omega)).trans ((hu_ne (by omega)).trans ((hu_ne (by omega)).trans ((hu_ne (by omega)).trans ((hu_ne (by omega)).trans ((hu_ne (by omega)).trans ((hu_ne (by omega)).trans ((hu_ne (by omega)).trans ((hu_ne (by omega)).trans hw3_3))))))))))), ((hu_ne (by omega)).trans ((hu_ne (by omega)).trans ((hu_ne (by omega)).trans ((hu_ne (by omega)).trans ((hu_ne (by omega)).trans ((hu_ne (by omega)).trans ((hu_ne (by omega)).trans ((hu_ne (by omega)).trans ((hu_ne (by omega)).trans ((hu_ne (by omega)).trans ((hu_ne (by omega)).trans hw3_4))))))))))), ((hu_ne (by omega)).trans ((hu_ne (by omega)).trans ((hu_ne (by omega)).trans ((hu_ne (by omega)).trans ((hu_ne (by omega)).trans ((hu_ne (by omega)).trans ((hu_ne (by omega)).trans ((hu_ne (by omega)).trans ((hu_ne (by omega)).trans ((hu_ne (by omega)).trans ((hu_ne (by omega)).trans hw3_5)))))))))))⟩
def k_VS_init : MS := ("VaryStore", b_VS_init, 1, none, "<init>", { frames := 3, cells := 32, slots := 3513, locals := 52 }, [])
set_option maxRecDepth 100000 in
set_option maxHeartbeats 4000000 in
theorem c_VS_init (Γ : GE) (a : Nat) {M : HM}  (p0 : M (a) = some (.inr (0, [.null, .null, .null, .null, .int (iI (0)), .int (iI (0)), .null, .null, .null, .null, .null]))) : CT Γ k_VS_init y_VS_init [.ref (a)] M (a + 1) (fun v M' n' => a + 33 = n' ∧ (∀ q, q ≠ a + 1 → q ≠ a + 2 → q ≠ a → q ≠ a + 3 → q ≠ a + 4 → q ≠ a + 5 → q ≠ a + 6 → q ≠ a + 7 → q ≠ a + 8 → q ≠ a + 9 → q ≠ a + 10 → q ≠ a + 11 → q ≠ a + 12 → q ≠ a + 13 → q ≠ a + 14 → q ≠ a + 15 → q ≠ a + 16 → q ≠ a + 17 → q ≠ a + 18 → q ≠ a + 19 → q ≠ a + 20 → q ≠ a + 21 → q ≠ a + 22 → q ≠ a + 23 → q ≠ a + 24 → q ≠ a + 25 → q ≠ a + 26 → q ≠ a + 27 → q ≠ a + 28 → q ≠ a + 29 → q ≠ a + 30 → q ≠ a + 31 → q ≠ a + 32 → M' q = M q) ∧ v = none ∧ M' (a + 1) = some (.inr (2, [.ref (a + 2), .int (iI (0))])) ∧ M' (a + 2) = some (.inl (Γ.2.2.1 0, 300, .inl (fun _ => iI 0))) ∧ M' (a) = some (.inr (0, [.ref (a + 1), .ref (a + 3), .ref (a + 5), .ref (a + 11), .int (iI ((-1))), .int (iI (0)), .ref (a + 17), .ref (a + 19), .ref (a + 21), .ref (a + 25), .ref (a + 29)])) ∧ M' (a + 3) = some (.inr (3, [.ref (a + 4), .int (iI (0)), .int (iI (0))])) ∧ M' (a + 4) = some (.inl (Γ.2.2.1 2, 25, .inr (.inr (.inr (.inr (fun _ => none)))))) ∧ M' (a + 5) = some (.inr (4, [.ref (a + 6), .ref (a + 8), .ref (a + 9), .ref (a + 10), .int (iI (0))])) ∧ M' (a + 6) = some (.inr (2, [.ref (a + 7), .int (iI (0))])) ∧ M' (a + 7) = some (.inl (Γ.2.2.1 0, 300, .inl (fun _ => iI 0))) ∧ M' (a + 8) = some (.inl (Γ.2.2.1 1, 100, .inl (fun _ => iI 0))) ∧ M' (a + 9) = some (.inl (Γ.2.2.1 1, 100, .inl (fun _ => iI 0))) ∧ M' (a + 10) = some (.inl (Γ.2.2.1 1, 100, .inl (fun _ => iI 0))) ∧ M' (a + 11) = some (.inr (4, [.ref (a + 12), .ref (a + 14), .ref (a + 15), .ref (a + 16), .int (iI (0))])) ∧ M' (a + 12) = some (.inr (2, [.ref (a + 13), .int (iI (0))])) ∧ M' (a + 13) = some (.inl (Γ.2.2.1 0, 300, .inl (fun _ => iI 0))) ∧ M' (a + 14) = some (.inl (Γ.2.2.1 1, 100, .inl (fun _ => iI 0))) ∧ M' (a + 15) = some (.inl (Γ.2.2.1 1, 100, .inl (fun _ => iI 0))) ∧ M' (a + 16) = some (.inl (Γ.2.2.1 1, 100, .inl (fun _ => iI 0))) ∧ M' (a + 17) = some (.inr (2, [.ref (a + 18), .int (iI (0))])) ∧ M' (a + 18) = some (.inl (Γ.2.2.1 0, 300, .inl (fun _ => iI 0))) ∧ M' (a + 19) = some (.inr (2, [.ref (a + 20), .int (iI (0))])) ∧ M' (a + 20) = some (.inl (Γ.2.2.1 0, 300, .inl (fun _ => iI 0))) ∧ M' (a + 21) = some (.inr (1, [.ref (a + 22), .ref (a + 24), .int (iI (0))])) ∧ M' (a + 22) = some (.inr (2, [.ref (a + 23), .int (iI (0))])) ∧ M' (a + 23) = some (.inl (Γ.2.2.1 0, 300, .inl (fun _ => iI 0))) ∧ M' (a + 24) = some (.inl (Γ.2.2.1 1, 150, .inl (fun _ => iI 0))) ∧ M' (a + 25) = some (.inr (1, [.ref (a + 26), .ref (a + 28), .int (iI (0))])) ∧ M' (a + 26) = some (.inr (2, [.ref (a + 27), .int (iI (0))])) ∧ M' (a + 27) = some (.inl (Γ.2.2.1 0, 300, .inl (fun _ => iI 0))) ∧ M' (a + 28) = some (.inl (Γ.2.2.1 1, 150, .inl (fun _ => iI 0))) ∧ M' (a + 29) = some (.inr (1, [.ref (a + 30), .ref (a + 32), .int (iI (0))])) ∧ M' (a + 30) = some (.inr (2, [.ref (a + 31), .int (iI (0))])) ∧ M' (a + 31) = some (.inl (Γ.2.2.1 0, 300, .inl (fun _ => iI 0))) ∧ M' (a + 32) = some (.inl (Γ.2.2.1 1, 150, .inl (fun _ => iI 0)))) := by
  refine CT.of (by decide) rfl rfl 0 rfl (Nat.le_of_ble_eq_true rfl) rfl ?_
  refine g_aload_n d_VS_init_0 rfl ?_
  refine g_objInit d_VS_init_1 w_55 w_56 w_57 (by decide) (Nat.le_of_ble_eq_true rfl) ?_
  refine g_aload_n d_VS_init_4 rfl ?_
  refine g_new (ci := 2) t_Ro [.null, .int (iI (0))] rfl uw_Ro to_Ro (fun j hj => by rcases (show j = 0 ∨ j = 1 by omega) with rfl | rfl <;> rfl) d_VS_init_5 w_58 w_59 w_31 (by decide) (by decide) ?_
  refine g_dup d_VS_init_8 rfl ?_
  refine g_callIN0 (ν := k_Ro_init) ⟨⟨"VaryStore", w_60⟩, w_31, w_62, by decide, by decide, by decide +kernel⟩ w_61 rfl rfl (c_Ro_init Γ (a + 1)  (hu_same _ _ _)) d_VS_init_9 ⟨⟨by decide, by decide⟩, ⟨by decide, by decide⟩⟩ (Nat.le_of_ble_eq_true rfl) (fun v1 M1 n1 hQ1 hn1 hd1 => ?_)
  obtain ⟨rfl, hf1, rfl, hw1_0, hw1_1⟩ := hQ1
  refine g_putF fa_VS_12 d_VS_init_12 ((hf1 (a) (by omega) (by omega)).trans ((hu_ne (by omega)).trans p0)) (Nat.le_of_ble_eq_true rfl) rfl w_138 rfl rfl rfl rfl ?_
  refine g_aload_n d_VS_init_15 rfl ?_
  refine g_new (ci := 3) t_Sh [.null, .int (iI (0)), .int (iI (0))] rfl uw_Sh to_Sh (fun j hj => by rcases (show j = 0 ∨ j = 1 ∨ j = 2 by omega) with rfl | rfl | rfl <;> rfl) d_VS_init_16 w_75 w_76 w_32 (by decide) (by decide) ?_
  refine g_dup d_VS_init_19 rfl ?_
  refine g_callIN0 (ν := k_Sh_init) ⟨⟨"VaryStore", w_77⟩, w_32, w_79, by decide, by decide, by decide +kernel⟩ w_78 rfl rfl (c_Sh_init Γ (a + 3)  (hu_same _ _ _)) d_VS_init_20 ⟨⟨by decide, by decide⟩, ⟨by decide, by decide⟩⟩ (Nat.le_of_ble_eq_true rfl) (fun v2 M2 n2 hQ2 hn2 hd2 => ?_)
  obtain ⟨rfl, hf2, rfl, hw2_0, hw2_1⟩ := hQ2
  refine g_putF fa_VS_19 d_VS_init_23 ((hf2 (a) (by omega) (by omega)).trans ((hu_ne (by omega)).trans (hu_same _ _ _))) (Nat.le_of_ble_eq_true rfl) rfl w_139 rfl rfl rfl rfl ?_
  refine g_aload_n d_VS_init_26 rfl ?_
  refine g_new (ci := 4) t_Te [.null, .null, .null, .null, .int (iI (0))] rfl uw_Te to_Te (fun j hj => by rcases (show j = 0 ∨ j = 1 ∨ j = 2 ∨ j = 3 ∨ j = 4 by omega) with rfl | rfl | rfl | rfl | rfl <;> rfl) d_VS_init_27 w_94 w_95 w_33 (by decide) (by decide) ?_
  refine g_dup d_VS_init_30 rfl ?_
  refine g_callIN0 (ν := k_Te_init) ⟨⟨"VaryStore", w_96⟩, w_33, w_98, by decide, by decide, by decide +kernel⟩ w_97 rfl rfl (c_Te_init Γ (a + 5)  (hu_same _ _ _)) d_VS_init_31 ⟨⟨by decide, by decide⟩, ⟨by decide, by decide⟩⟩ (Nat.le_of_ble_eq_true rfl) (fun v3 M3 n3 hQ3 hn3 hd3 => ?_)
  obtain ⟨rfl, hf3, rfl, hw3_0, hw3_1, hw3_2, hw3_3, hw3_4, hw3_5⟩ := hQ3
  refine g_put fa_VS_26 d_VS_init_34 ((hf3 (a) (by omega) (by omega) (by omega) (by omega) (by omega) (by omega)).trans ((hu_ne (by omega)).trans (hu_same _ _ _))) (Nat.le_of_ble_eq_true rfl) rfl rfl rfl ?_
  refine g_aload_n d_VS_init_37 rfl ?_
  refine g_new (ci := 4) t_Te [.null, .null, .null, .null, .int (iI (0))] rfl uw_Te to_Te (fun j hj => by rcases (show j = 0 ∨ j = 1 ∨ j = 2 ∨ j = 3 ∨ j = 4 by omega) with rfl | rfl | rfl | rfl | rfl <;> rfl) d_VS_init_38 w_94 w_95 w_33 (by decide) (by decide) ?_
  refine g_dup d_VS_init_41 rfl ?_
  refine g_callIN0 (ν := k_Te_init) ⟨⟨"VaryStore", w_96⟩, w_33, w_98, by decide, by decide, by decide +kernel⟩ w_97 rfl rfl (c_Te_init Γ (a + 11)  (hu_same _ _ _)) d_VS_init_42 ⟨⟨by decide, by decide⟩, ⟨by decide, by decide⟩⟩ (Nat.le_of_ble_eq_true rfl) (fun v4 M4 n4 hQ4 hn4 hd4 => ?_)
  obtain ⟨rfl, hf4, rfl, hw4_0, hw4_1, hw4_2, hw4_3, hw4_4, hw4_5⟩ := hQ4
  refine g_put fa_VS_30 d_VS_init_45 ((hf4 (a) (by omega) (by omega) (by omega) (by omega) (by omega) (by omega)).trans ((hu_ne (by omega)).trans (hu_same _ _ _))) (Nat.le_of_ble_eq_true rfl) rfl rfl rfl ?_
  refine g_aload_n d_VS_init_48 rfl ?_
  refine g_iconst d_VS_init_49 ?_
  refine g_put fa_VS_33 d_VS_init_50 (hu_same _ _ _) (Nat.le_of_ble_eq_true rfl) rfl rfl rfl ?_
  refine g_aload_n d_VS_init_53 rfl ?_
  refine g_iconst d_VS_init_54 ?_
  refine g_put fa_VS_37 d_VS_init_55 (hu_same _ _ _) (Nat.le_of_ble_eq_true rfl) rfl rfl rfl ?_
  refine g_aload_n d_VS_init_58 rfl ?_
  refine g_new (ci := 2) t_Ro [.null, .int (iI (0))] rfl uw_Ro to_Ro (fun j hj => by rcases (show j = 0 ∨ j = 1 by omega) with rfl | rfl <;> rfl) d_VS_init_59 w_58 w_59 w_31 (by decide) (by decide) ?_
  refine g_dup d_VS_init_62 rfl ?_
  refine g_callIN0 (ν := k_Ro_init) ⟨⟨"VaryStore", w_60⟩, w_31, w_62, by decide, by decide, by decide +kernel⟩ w_61 rfl rfl (c_Ro_init Γ (a + 17)  (hu_same _ _ _)) d_VS_init_63 ⟨⟨by decide, by decide⟩, ⟨by decide, by decide⟩⟩ (Nat.le_of_ble_eq_true rfl) (fun v5 M5 n5 hQ5 hn5 hd5 => ?_)
  obtain ⟨rfl, hf5, rfl, hw5_0, hw5_1⟩ := hQ5
  refine g_putF fa_VS_40 d_VS_init_66 ((hf5 (a) (by omega) (by omega)).trans ((hu_ne (by omega)).trans (hu_same _ _ _))) (Nat.le_of_ble_eq_true rfl) rfl w_144 rfl rfl rfl rfl ?_
  refine g_aload_n d_VS_init_69 rfl ?_
  refine g_new (ci := 2) t_Ro [.null, .int (iI (0))] rfl uw_Ro to_Ro (fun j hj => by rcases (show j = 0 ∨ j = 1 by omega) with rfl | rfl <;> rfl) d_VS_init_70 w_58 w_59 w_31 (by decide) (by decide) ?_
  refine g_dup d_VS_init_73 rfl ?_
  refine g_callIN0 (ν := k_Ro_init) ⟨⟨"VaryStore", w_60⟩, w_31, w_62, by decide, by decide, by decide +kernel⟩ w_61 rfl rfl (c_Ro_init Γ (a + 19)  (hu_same _ _ _)) d_VS_init_74 ⟨⟨by decide, by decide⟩, ⟨by decide, by decide⟩⟩ (Nat.le_of_ble_eq_true rfl) (fun v6 M6 n6 hQ6 hn6 hd6 => ?_)
  obtain ⟨rfl, hf6, rfl, hw6_0, hw6_1⟩ := hQ6
  refine g_putF fa_VS_43 d_VS_init_77 ((hf6 (a) (by omega) (by omega)).trans ((hu_ne (by omega)).trans (hu_same _ _ _))) (Nat.le_of_ble_eq_true rfl) rfl w_145 rfl rfl rfl rfl ?_
  refine g_aload_n d_VS_init_80 rfl ?_
  refine g_new (ci := 1) t_It [.null, .null, .int (iI (0))] rfl uw_It to_It (fun j hj => by rcases (show j = 0 ∨ j = 1 ∨ j = 2 by omega) with rfl | rfl | rfl <;> rfl) d_VS_init_81 w_119 w_120 w_34 (by decide) (by decide) ?_
  refine g_dup d_VS_init_84 rfl ?_
  refine g_callIN0 (ν := k_It_init) ⟨⟨"VaryStore", w_121⟩, w_34, w_123, by decide, by decide, by decide +kernel⟩ w_122 rfl rfl (c_It_init Γ (a + 21)  (hu_same _ _ _)) d_VS_init_85 ⟨⟨by decide, by decide⟩, ⟨by decide, by decide⟩⟩ (Nat.le_of_ble_eq_true rfl) (fun v7 M7 n7 hQ7 hn7 hd7 => ?_)
  obtain ⟨rfl, hf7, rfl, hw7_0, hw7_1, hw7_2, hw7_3⟩ := hQ7
  refine g_putF fa_VS_49 d_VS_init_88 ((hf7 (a) (by omega) (by omega) (by omega) (by omega)).trans ((hu_ne (by omega)).trans (hu_same _ _ _))) (Nat.le_of_ble_eq_true rfl) rfl w_146 rfl rfl rfl rfl ?_
  refine g_aload_n d_VS_init_91 rfl ?_
  refine g_new (ci := 1) t_It [.null, .null, .int (iI (0))] rfl uw_It to_It (fun j hj => by rcases (show j = 0 ∨ j = 1 ∨ j = 2 by omega) with rfl | rfl | rfl <;> rfl) d_VS_init_92 w_119 w_120 w_34 (by decide) (by decide) ?_
  refine g_dup d_VS_init_95 rfl ?_
  refine g_callIN0 (ν := k_It_init) ⟨⟨"VaryStore", w_121⟩, w_34, w_123, by decide, by decide, by decide +kernel⟩ w_122 rfl rfl (c_It_init Γ (a + 25)  (hu_same _ _ _)) d_VS_init_96 ⟨⟨by decide, by decide⟩, ⟨by decide, by decide⟩⟩ (Nat.le_of_ble_eq_true rfl) (fun v8 M8 n8 hQ8 hn8 hd8 => ?_)
  obtain ⟨rfl, hf8, rfl, hw8_0, hw8_1, hw8_2, hw8_3⟩ := hQ8
  refine g_putF fa_VS_53 d_VS_init_99 ((hf8 (a) (by omega) (by omega) (by omega) (by omega)).trans ((hu_ne (by omega)).trans (hu_same _ _ _))) (Nat.le_of_ble_eq_true rfl) rfl w_147 rfl rfl rfl rfl ?_
  refine g_aload_n d_VS_init_102 rfl ?_
  refine g_new (ci := 1) t_It [.null, .null, .int (iI (0))] rfl uw_It to_It (fun j hj => by rcases (show j = 0 ∨ j = 1 ∨ j = 2 by omega) with rfl | rfl | rfl <;> rfl) d_VS_init_103 w_119 w_120 w_34 (by decide) (by decide) ?_
  refine g_dup d_VS_init_106 rfl ?_
  refine g_callIN0 (ν := k_It_init) ⟨⟨"VaryStore", w_121⟩, w_34, w_123, by decide, by decide, by decide +kernel⟩ w_122 rfl rfl (c_It_init Γ (a + 29)  (hu_same _ _ _)) d_VS_init_107 ⟨⟨by decide, by decide⟩, ⟨by decide, by decide⟩⟩ (Nat.le_of_ble_eq_true rfl) (fun v9 M9 n9 hQ9 hn9 hd9 => ?_)
  obtain ⟨rfl, hf9, rfl, hw9_0, hw9_1, hw9_2, hw9_3⟩ := hQ9
  refine g_putF fa_VS_56 d_VS_init_110 ((hf9 (a) (by omega) (by omega) (by omega) (by omega)).trans ((hu_ne (by omega)).trans (hu_same _ _ _))) (Nat.le_of_ble_eq_true rfl) rfl w_148 rfl rfl rfl rfl ?_
  refine g_vret d_VS_init_113 rfl ?_ (by decide) (by decide)
  exact ⟨rfl, fun q e0 e1 e2 e3 e4 e5 e6 e7 e8 e9 e10 e11 e12 e13 e14 e15 e16 e17 e18 e19 e20 e21 e22 e23 e24 e25 e26 e27 e28 e29 e30 e31 e32 => ((hu_ne (by omega)).trans ((hf9 q (by omega) (by omega) (by omega) (by omega)).trans ((hu_ne (by omega)).trans ((hu_ne (by omega)).trans ((hf8 q (by omega) (by omega) (by omega) (by omega)).trans ((hu_ne (by omega)).trans ((hu_ne (by omega)).trans ((hf7 q (by omega) (by omega) (by omega) (by omega)).trans ((hu_ne (by omega)).trans ((hu_ne (by omega)).trans ((hf6 q (by omega) (by omega)).trans ((hu_ne (by omega)).trans ((hu_ne (by omega)).trans ((hf5 q (by omega) (by omega)).trans ((hu_ne (by omega)).trans ((hu_ne (by omega)).trans ((hu_ne (by omega)).trans ((hu_ne (by omega)).trans ((hf4 q (by omega) (by omega) (by omega) (by omega) (by omega) (by omega)).trans ((hu_ne (by omega)).trans ((hu_ne (by omega)).trans ((hf3 q (by omega) (by omega) (by omega) (by omega) (by omega) (by omega)).trans ((hu_ne (by omega)).trans ((hu_ne (by omega)).trans ((hf2 q (by omega) (by omega)).trans ((hu_ne (by omega)).trans ((hu_ne (by omega)).trans ((hf1 q (by omega) (by omega)).trans ((hu_ne (by omega)).trans rfl))))))))))))))))))))))))))))), rfl, ((hu_ne (by omega)).trans ((hf9 (a + 1) (by omega) (by omega) (by omega) (by omega)).trans ((hu_ne (by omega)).trans ((hu_ne (by omega)).trans ((hf8 (a + 1) (by omega) (by omega) (by omega) (by omega)).trans ((hu_ne (by omega)).trans ((hu_ne (by omega)).trans ((hf7 (a + 1) (by omega) (by omega) (by omega) (by omega)).trans ((hu_ne (by omega)).trans ((hu_ne (by omega)).trans ((hf6 (a + 1) (by omega) (by omega)).trans ((hu_ne (by omega)).trans ((hu_ne (by omega)).trans ((hf5 (a + 1) (by omega) (by omega)).trans ((hu_ne (by omega)).trans ((hu_ne (by omega)).trans ((hu_ne (by omega)).trans ((hu_ne (by omega)).trans ((hf4 (a + 1) (by omega) (by omega) (by omega) (by omega) (by omega) (by omega)).trans ((hu_ne (by omega)).trans ((hu_ne (by omega)).trans ((hf3 (a + 1) (by omega) (by omega) (by omega) (by omega) (by omega) (by omega)).trans ((hu_ne (by omega)).trans ((hu_ne (by omega)).trans ((hf2 (a + 1) (by omega) (by omega)).trans ((hu_ne (by omega)).trans ((hu_ne (by omega)).trans hw1_1))))))))))))))))))))))))))), ((hu_ne (by omega)).trans ((hf9 (a + 2) (by omega) (by omega) (by omega) (by omega)).trans ((hu_ne (by omega)).trans ((hu_ne (by omega)).trans ((hf8 (a + 2) (by omega) (by omega) (by omega) (by omega)).trans ((hu_ne (by omega)).trans ((hu_ne (by omega)).trans ((hf7 (a + 2) (by omega) (by omega) (by omega) (by omega)).trans ((hu_ne (by omega)).trans ((hu_ne (by omega)).trans ((hf6 (a + 2) (by omega) (by omega)).trans ((hu_ne (by omega)).trans ((hu_ne (by omega)).trans ((hf5 (a + 2) (by omega) (by omega)).trans ((hu_ne (by omega)).trans ((hu_ne (by omega)).trans ((hu_ne (by omega)).trans ((hu_ne (by omega)).trans ((hf4 (a + 2) (by omega) (by omega) (by omega) (by omega) (by omega) (by omega)).trans ((hu_ne (by omega)).trans ((hu_ne (by omega)).trans ((hf3 (a + 2) (by omega) (by omega) (by omega) (by omega) (by omega) (by omega)).trans ((hu_ne (by omega)).trans ((hu_ne (by omega)).trans ((hf2 (a + 2) (by omega) (by omega)).trans ((hu_ne (by omega)).trans ((hu_ne (by omega)).trans hw1_0))))))))))))))))))))))))))), (hu_same _ _ _), ((hu_ne (by omega)).trans ((hf9 (a + 3) (by omega) (by omega) (by omega) (by omega)).trans ((hu_ne (by omega)).trans ((hu_ne (by omega)).trans ((hf8 (a + 3) (by omega) (by omega) (by omega) (by omega)).trans ((hu_ne (by omega)).trans ((hu_ne (by omega)).trans ((hf7 (a + 3) (by omega) (by omega) (by omega) (by omega)).trans ((hu_ne (by omega)).trans ((hu_ne (by omega)).trans ((hf6 (a + 3) (by omega) (by omega)).trans ((hu_ne (by omega)).trans ((hu_ne (by omega)).trans ((hf5 (a + 3) (by omega) (by omega)).trans ((hu_ne (by omega)).trans ((hu_ne (by omega)).trans ((hu_ne (by omega)).trans ((hu_ne (by omega)).trans ((hf4 (a + 3) (by omega) (by omega) (by omega) (by omega) (by omega) (by omega)).trans ((hu_ne (by omega)).trans ((hu_ne (by omega)).trans ((hf3 (a + 3) (by omega) (by omega) (by omega) (by omega) (by omega) (by omega)).trans ((hu_ne (by omega)).trans ((hu_ne (by omega)).trans hw2_1)))))))))))))))))))))))), ((hu_ne (by omega)).trans ((hf9 (a + 4) (by omega) (by omega) (by omega) (by omega)).trans ((hu_ne (by omega)).trans ((hu_ne (by omega)).trans ((hf8 (a + 4) (by omega) (by omega) (by omega) (by omega)).trans ((hu_ne (by omega)).trans ((hu_ne (by omega)).trans ((hf7 (a + 4) (by omega) (by omega) (by omega) (by omega)).trans ((hu_ne (by omega)).trans ((hu_ne (by omega)).trans ((hf6 (a + 4) (by omega) (by omega)).trans ((hu_ne (by omega)).trans ((hu_ne (by omega)).trans ((hf5 (a + 4) (by omega) (by omega)).trans ((hu_ne (by omega)).trans ((hu_ne (by omega)).trans ((hu_ne (by omega)).trans ((hu_ne (by omega)).trans ((hf4 (a + 4) (by omega) (by omega) (by omega) (by omega) (by omega) (by omega)).trans ((hu_ne (by omega)).trans ((hu_ne (by omega)).trans ((hf3 (a + 4) (by omega) (by omega) (by omega) (by omega) (by omega) (by omega)).trans ((hu_ne (by omega)).trans ((hu_ne (by omega)).trans hw2_0)))))))))))))))))))))))), ((hu_ne (by omega)).trans ((hf9 (a + 5) (by omega) (by omega) (by omega) (by omega)).trans ((hu_ne (by omega)).trans ((hu_ne (by omega)).trans ((hf8 (a + 5) (by omega) (by omega) (by omega) (by omega)).trans ((hu_ne (by omega)).trans ((hu_ne (by omega)).trans ((hf7 (a + 5) (by omega) (by omega) (by omega) (by omega)).trans ((hu_ne (by omega)).trans ((hu_ne (by omega)).trans ((hf6 (a + 5) (by omega) (by omega)).trans ((hu_ne (by omega)).trans ((hu_ne (by omega)).trans ((hf5 (a + 5) (by omega) (by omega)).trans ((hu_ne (by omega)).trans ((hu_ne (by omega)).trans ((hu_ne (by omega)).trans ((hu_ne (by omega)).trans ((hf4 (a + 5) (by omega) (by omega) (by omega) (by omega) (by omega) (by omega)).trans ((hu_ne (by omega)).trans ((hu_ne (by omega)).trans hw3_2))))))))))))))))))))), ((hu_ne (by omega)).trans ((hf9 (a + 6) (by omega) (by omega) (by omega) (by omega)).trans ((hu_ne (by omega)).trans ((hu_ne (by omega)).trans ((hf8 (a + 6) (by omega) (by omega) (by omega) (by omega)).trans ((hu_ne (by omega)).trans ((hu_ne (by omega)).trans ((hf7 (a + 6) (by omega) (by omega) (by omega) (by omega)).trans ((hu_ne (by omega)).trans ((hu_ne (by omega)).trans ((hf6 (a + 6) (by omega) (by omega)).trans ((hu_ne (by omega)).trans ((hu_ne (by omega)).trans ((hf5 (a + 6) (by omega) (by omega)).trans ((hu_ne (by omega)).trans ((hu_ne (by omega)).trans ((hu_ne (by omega)).trans ((hu_ne (by omega)).trans ((hf4 (a + 6) (by omega) (by omega) (by omega) (by omega) (by omega) (by omega)).trans ((hu_ne (by omega)).trans ((hu_ne (by omega)).trans hw3_0))))))))))))))))))))), ((hu_ne (by omega)).trans ((hf9 (a + 7) (by omega) (by omega) (by omega) (by omega)).trans ((hu_ne (by omega)).trans ((hu_ne (by omega)).trans ((hf8 (a + 7) (by omega) (by omega) (by omega) (by omega)).trans ((hu_ne (by omega)).trans ((hu_ne (by omega)).trans ((hf7 (a + 7) (by omega) (by omega) (by omega) (by omega)).trans ((hu_ne (by omega)).trans ((hu_ne (by omega)).trans ((hf6 (a + 7) (by omega) (by omega)).trans ((hu_ne (by omega)).trans ((hu_ne (by omega)).trans ((hf5 (a + 7) (by omega) (by omega)).trans ((hu_ne (by omega)).trans ((hu_ne (by omega)).trans ((hu_ne (by omega)).trans ((hu_ne (by omega)).trans ((hf4 (a + 7) (by omega) (by omega) (by omega) (by omega) (by omega) (by omega)).trans ((hu_ne (by omega)).trans ((hu_ne (by omega)).trans hw3_1))))))))))))))))))))), ((hu_ne (by omega)).trans ((hf9 (a + 8) (by omega) (by omega) (by omega) (by omega)).trans ((hu_ne (by omega)).trans ((hu_ne (by omega)).trans ((hf8 (a + 8) (by omega) (by omega) (by omega) (by omega)).trans ((hu_ne (by omega)).trans ((hu_ne (by omega)).trans ((hf7 (a + 8) (by omega) (by omega) (by omega) (by omega)).trans ((hu_ne (by omega)).trans ((hu_ne (by omega)).trans ((hf6 (a + 8) (by omega) (by omega)).trans ((hu_ne (by omega)).trans ((hu_ne (by omega)).trans ((hf5 (a + 8) (by omega) (by omega)).trans ((hu_ne (by omega)).trans ((hu_ne (by omega)).trans ((hu_ne (by omega)).trans ((hu_ne (by omega)).trans ((hf4 (a + 8) (by omega) (by omega) (by omega) (by omega) (by omega) (by omega)).trans ((hu_ne (by omega)).trans ((hu_ne (by omega)).trans hw3_3))))))))))))))))))))), ((hu_ne (by omega)).trans ((hf9 (a + 9) (by omega) (by omega) (by omega) (by omega)).trans ((hu_ne (by omega)).trans ((hu_ne (by omega)).trans ((hf8 (a + 9) (by omega) (by omega) (by omega) (by omega)).trans ((hu_ne (by omega)).trans ((hu_ne (by omega)).trans ((hf7 (a + 9) (by omega) (by omega) (by omega) (by omega)).trans ((hu_ne (by omega)).trans ((hu_ne (by omega)).trans ((hf6 (a + 9) (by omega) (by omega)).trans ((hu_ne (by omega)).trans ((hu_ne (by omega)).trans ((hf5 (a + 9) (by omega) (by omega)).trans ((hu_ne (by omega)).trans ((hu_ne (by omega)).trans ((hu_ne (by omega)).trans ((hu_ne (by omega)).trans ((hf4 (a + 9) (by omega) (by omega) (by omega) (by omega) (by omega) (by omega)).trans ((hu_ne (by omega)).trans ((hu_ne (by omega)).trans hw3_4))))))))))))))))))))), ((hu_ne (by omega)).trans ((hf9 (a + 10) (by omega) (by omega) (by omega) (by omega)).trans ((hu_ne (by omega)).trans ((hu_ne (by omega)).trans ((hf8 (a + 10) (by omega) (by omega) (by omega) (by omega)).trans ((hu_ne (by omega)).trans ((hu_ne (by omega)).trans ((hf7 (a + 10) (by omega) (by omega) (by omega) (by omega)).trans ((hu_ne (by omega)).trans ((hu_ne (by omega)).trans ((hf6 (a + 10) (by omega) (by omega)).trans ((hu_ne (by omega)).trans ((hu_ne (by omega)).trans ((hf5 (a + 10) (by omega) (by omega)).trans ((hu_ne (by omega)).trans ((hu_ne (by omega)).trans ((hu_ne (by omega)).trans ((hu_ne (by omega)).trans ((hf4 (a + 10) (by omega) (by omega) (by omega) (by omega) (by omega) (by omega)).trans ((hu_ne (by omega)).trans ((hu_ne (by omega)).trans hw3_5))))))))))))))))))))), ((hu_ne (by omega)).trans ((hf9 (a + 11) (by omega) (by omega) (by omega) (by omega)).trans ((hu_ne (by omega)).trans ((hu_ne (by omega)).trans ((hf8 (a + 11) (by omega) (by omega) (by omega) (by omega)).trans ((hu_ne (by omega)).trans ((hu_ne (by omega)).trans ((hf7 (a + 11) (by omega) (by omega) (by omega) (by omega)).trans ((hu_ne (by omega)).trans ((hu_ne (by omega)).trans ((hf6 (a + 11) (by omega) (by omega)).trans ((hu_ne (by omega)).trans ((hu_ne (by omega)).trans ((hf5 (a + 11) (by omega) (by omega)).trans ((hu_ne (by omega)).trans ((hu_ne (by omega)).trans ((hu_ne (by omega)).trans ((hu_ne (by omega)).trans hw4_2)))))))))))))))))), ((hu_ne (by omega)).trans ((hf9 (a + 12) (by omega) (by omega) (by omega) (by omega)).trans ((hu_ne (by omega)).trans ((hu_ne (by omega)).trans ((hf8 (a + 12) (by omega) (by omega) (by omega) (by omega)).trans ((hu_ne (by omega)).trans ((hu_ne (by omega)).trans ((hf7 (a + 12) (by omega) (by omega) (by omega) (by omega)).trans ((hu_ne (by omega)).trans ((hu_ne (by omega)).trans ((hf6 (a + 12) (by omega) (by omega)).trans ((hu_ne (by omega)).trans ((hu_ne (by omega)).trans ((hf5 (a + 12) (by omega) (by omega)).trans ((hu_ne (by omega)).trans ((hu_ne (by omega)).trans ((hu_ne (by omega)).trans ((hu_ne (by omega)).trans hw4_0)))))))))))))))))), ((hu_ne (by omega)).trans ((hf9 (a + 13) (by omega) (by omega) (by omega) (by omega)).trans ((hu_ne (by omega)).trans ((hu_ne (by omega)).trans ((hf8 (a + 13) (by omega) (by omega) (by omega) (by omega)).trans ((hu_ne (by omega)).trans ((hu_ne (by omega)).trans ((hf7 (a + 13) (by omega) (by omega) (by omega) (by omega)).trans ((hu_ne (by omega)).trans ((hu_ne (by omega)).trans ((hf6 (a + 13) (by omega) (by omega)).trans ((hu_ne (by omega)).trans ((hu_ne (by omega)).trans ((hf5 (a + 13) (by omega) (by omega)).trans ((hu_ne (by omega)).trans ((hu_ne (by omega)).trans ((hu_ne (by omega)).trans ((hu_ne (by omega)).trans hw4_1)))))))))))))))))), ((hu_ne (by omega)).trans ((hf9 (a + 14) (by omega) (by omega) (by omega) (by omega)).trans ((hu_ne (by omega)).trans ((hu_ne (by omega)).trans ((hf8 (a + 14) (by omega) (by omega) (by omega) (by omega)).trans ((hu_ne (by omega)).trans ((hu_ne (by omega)).trans ((hf7 (a + 14) (by omega) (by omega) (by omega) (by omega)).trans ((hu_ne (by omega)).trans ((hu_ne (by omega)).trans ((hf6 (a + 14) (by omega) (by omega)).trans ((hu_ne (by omega)).trans ((hu_ne (by omega)).trans ((hf5 (a + 14) (by omega) (by omega)).trans ((hu_ne (by omega)).trans ((hu_ne (by omega)).trans ((hu_ne (by omega)).trans ((hu_ne (by omega)).trans hw4_3)))))))))))))))))), ((hu_ne (by omega)).trans ((hf9 (a + 15) (by omega) (by omega) (by omega) (by omega)).trans ((hu_ne (by omega)).trans ((hu_ne (by omega)).trans ((hf8 (a + 15) (by omega) (by omega) (by omega) (by omega)).trans ((hu_ne (by omega)).trans ((hu_ne (by omega)).trans ((hf7 (a + 15) (by omega) (by omega) (by omega) (by omega)).trans ((hu_ne (by omega)).trans ((hu_ne (by omega)).trans ((hf6 (a + 15) (by omega) (by omega)).trans ((hu_ne (by omega)).trans ((hu_ne (by omega)).trans ((hf5 (a + 15) (by omega) (by omega)).trans ((hu_ne (by omega)).trans ((hu_ne (by omega)).trans ((hu_ne (by omega)).trans ((hu_ne (by omega)).trans hw4_4)))))))))))))))))), ((hu_ne (by omega)).trans ((hf9 (a + 16) (by omega) (by omega) (by omega) (by omega)).trans ((hu_ne (by omega)).trans ((hu_ne (by omega)).trans ((hf8 (a + 16) (by omega) (by omega) (by omega) (by omega)).trans ((hu_ne (by omega)).trans ((hu_ne (by omega)).trans ((hf7 (a + 16) (by omega) (by omega) (by omega) (by omega)).trans ((hu_ne (by omega)).trans ((hu_ne (by omega)).trans ((hf6 (a + 16) (by omega) (by omega)).trans ((hu_ne (by omega)).trans ((hu_ne (by omega)).trans ((hf5 (a + 16) (by omega) (by omega)).trans ((hu_ne (by omega)).trans ((hu_ne (by omega)).trans ((hu_ne (by omega)).trans ((hu_ne (by omega)).trans hw4_5)))))))))))))))))), ((hu_ne (by omega)).trans ((hf9 (a + 17) (by omega) (by omega) (by omega) (by omega)).trans ((hu_ne (by omega)).trans ((hu_ne (by omega)).trans ((hf8 (a + 17) (by omega) (by omega) (by omega) (by omega)).trans ((hu_ne (by omega)).trans ((hu_ne (by omega)).trans ((hf7 (a + 17) (by omega) (by omega) (by omega) (by omega)).trans ((hu_ne (by omega)).trans ((hu_ne (by omega)).trans ((hf6 (a + 17) (by omega) (by omega)).trans ((hu_ne (by omega)).trans ((hu_ne (by omega)).trans hw5_1))))))))))))), ((hu_ne (by omega)).trans ((hf9 (a + 18) (by omega) (by omega) (by omega) (by omega)).trans ((hu_ne (by omega)).trans ((hu_ne (by omega)).trans ((hf8 (a + 18) (by omega) (by omega) (by omega) (by omega)).trans ((hu_ne (by omega)).trans ((hu_ne (by omega)).trans ((hf7 (a + 18) (by omega) (by omega) (by omega) (by omega)).trans ((hu_ne (by omega)).trans ((hu_ne (by omega)).trans ((hf6 (a + 18) (by omega) (by omega)).trans ((hu_ne (by omega)).trans ((hu_ne (by omega)).trans hw5_0))))))))))))), ((hu_ne (by omega)).trans ((hf9 (a + 19) (by omega) (by omega) (by omega) (by omega)).trans ((hu_ne (by omega)).trans ((hu_ne (by omega)).trans ((hf8 (a + 19) (by omega) (by omega) (by omega) (by omega)).trans ((hu_ne (by omega)).trans ((hu_ne (by omega)).trans ((hf7 (a + 19) (by omega) (by omega) (by omega) (by omega)).trans ((hu_ne (by omega)).trans ((hu_ne (by omega)).trans hw6_1)))))))))), ((hu_ne (by omega)).trans ((hf9 (a + 20) (by omega) (by omega) (by omega) (by omega)).trans ((hu_ne (by omega)).trans ((hu_ne (by omega)).trans ((hf8 (a + 20) (by omega) (by omega) (by omega) (by omega)).trans ((hu_ne (by omega)).trans ((hu_ne (by omega)).trans ((hf7 (a + 20) (by omega) (by omega) (by omega) (by omega)).trans ((hu_ne (by omega)).trans ((hu_ne (by omega)).trans hw6_0)))))))))), ((hu_ne (by omega)).trans ((hf9 (a + 21) (by omega) (by omega) (by omega) (by omega)).trans ((hu_ne (by omega)).trans ((hu_ne (by omega)).trans ((hf8 (a + 21) (by omega) (by omega) (by omega) (by omega)).trans ((hu_ne (by omega)).trans ((hu_ne (by omega)).trans hw7_2))))))), ((hu_ne (by omega)).trans ((hf9 (a + 22) (by omega) (by omega) (by omega) (by omega)).trans ((hu_ne (by omega)).trans ((hu_ne (by omega)).trans ((hf8 (a + 22) (by omega) (by omega) (by omega) (by omega)).trans ((hu_ne (by omega)).trans ((hu_ne (by omega)).trans hw7_0))))))), ((hu_ne (by omega)).trans ((hf9 (a + 23) (by omega) (by omega) (by omega) (by omega)).trans ((hu_ne (by omega)).trans ((hu_ne (by omega)).trans ((hf8 (a + 23) (by omega) (by omega) (by omega) (by omega)).trans ((hu_ne (by omega)).trans ((hu_ne (by omega)).trans hw7_1))))))), ((hu_ne (by omega)).trans ((hf9 (a + 24) (by omega) (by omega) (by omega) (by omega)).trans ((hu_ne (by omega)).trans ((hu_ne (by omega)).trans ((hf8 (a + 24) (by omega) (by omega) (by omega) (by omega)).trans ((hu_ne (by omega)).trans ((hu_ne (by omega)).trans hw7_3))))))), ((hu_ne (by omega)).trans ((hf9 (a + 25) (by omega) (by omega) (by omega) (by omega)).trans ((hu_ne (by omega)).trans ((hu_ne (by omega)).trans hw8_2)))), ((hu_ne (by omega)).trans ((hf9 (a + 26) (by omega) (by omega) (by omega) (by omega)).trans ((hu_ne (by omega)).trans ((hu_ne (by omega)).trans hw8_0)))), ((hu_ne (by omega)).trans ((hf9 (a + 27) (by omega) (by omega) (by omega) (by omega)).trans ((hu_ne (by omega)).trans ((hu_ne (by omega)).trans hw8_1)))), ((hu_ne (by omega)).trans ((hf9 (a + 28) (by omega) (by omega) (by omega) (by omega)).trans ((hu_ne (by omega)).trans ((hu_ne (by omega)).trans hw8_3)))), ((hu_ne (by omega)).trans hw9_2), ((hu_ne (by omega)).trans hw9_0), ((hu_ne (by omega)).trans hw9_1), ((hu_ne (by omega)).trans hw9_3)⟩
def k_Ro_clear : MS := ("VaryStore$Row", b_Ro_clear, 1, none, "clear", { frames := 0, cells := 0, slots := 0, locals := 0 }, [])
set_option maxRecDepth 100000 in
set_option maxHeartbeats 4000000 in
theorem c_Ro_clear (Γ : GE) (a : Nat) (x : Nat) (z : Int) {M : HM} {n : Nat}  (p0 : M (a) = some (.inr (2, [.ref (x), .int (iI (z))]))) : CT Γ k_Ro_clear y_Ro_clear [.ref (a)] M (n) (fun v M' n' => n = n' ∧ (∀ q, q ≠ a → M' q = M q) ∧ v = none ∧ M' (a) = some (.inr (2, [.ref (x), .int (iI (0))]))) := by
  refine CT.of (by decide) rfl rfl 0 rfl (Nat.le_of_ble_eq_true rfl) rfl ?_
  refine g_aload_n d_Ro_clear_0 rfl ?_
  refine g_iconst d_Ro_clear_1 ?_
  refine g_put fa_Ro_15 d_Ro_clear_2 p0 (Nat.le_of_ble_eq_true rfl) rfl rfl rfl ?_
  refine g_vret d_Ro_clear_5 rfl ?_ (by decide) (by decide)
  exact ⟨rfl, fun q e0 => ((hu_ne (by omega)).trans rfl), rfl, (hu_same _ _ _)⟩
def k_Ro_copy0 : MS := ("VaryStore$Row", b_Ro_copy, 2, none, "copy", { frames := 1, cells := 0, slots := 0, locals := 40 }, [])
set_option maxRecDepth 100000 in
set_option maxHeartbeats 4000000 in
theorem c_Ro_copy0 (Γ : GE) (a : Nat) (b : Nat) (z : Int) (f : Nat → Int32) (g : Nat → Int32) {M : HM} {n : Nat} (hab : a + 2 ≤ b ∨ b + 2 ≤ a) (p0 : M (a) = some (.inr (2, [.ref (a + 1), .int (iI (z))]))) (p1 : M (a + 1) = some (.inl (Γ.2.2.1 0, 300, .inl (f)))) (p2 : M (b) = some (.inr (2, [.ref (b + 1), .int (iI (0))]))) (p3 : M (b + 1) = some (.inl (Γ.2.2.1 0, 300, .inl (g)))) : CT Γ k_Ro_copy0 y_Ro_copy [.ref (a), .ref (b)] M (n) (fun v M' n' => n = n' ∧ (∀ q, q ≠ a + 1 → q ≠ a → M' q = M q) ∧ v = none ∧ M' (a + 1) = some (.inl (Γ.2.2.1 0, 300, .inl (f))) ∧ M' (a) = some (.inr (2, [.ref (a + 1), .int (iI (0))]))) := by
  refine CT.of (by decide) rfl rfl 0 rfl (Nat.le_of_ble_eq_true rfl) rfl ?_
  refine g_aload_n d_Ro_copy_0 rfl ?_
  refine g_get fa_Ro_9 d_Ro_copy_1 p2 rfl ?_
  refine g_iconst d_Ro_copy_4 ?_
  refine g_aload_n d_Ro_copy_5 rfl ?_
  refine g_get fa_Ro_9 d_Ro_copy_6 p0 rfl ?_
  refine g_iconst d_Ro_copy_9 ?_
  refine g_aload_n d_Ro_copy_10 rfl ?_
  refine g_get fa_Ro_15 d_Ro_copy_11 p2 rfl ?_
  refine g_copy (sp := 0) (dp := 0) (k := 0) 0 rfl (by decide) d_Ro_copy_14 w_230 w_232 w_231 w_37 p3 p1 (by omega) (by omega) (by omega) (by omega) (fun i hi => absurd hi (by omega)) (by decide) (Nat.le_of_ble_eq_true rfl) ?_
  rw [va_cpy0]
  refine g_aload_n d_Ro_copy_17 rfl ?_
  refine g_aload_n d_Ro_copy_18 rfl ?_
  refine g_get fa_Ro_15 d_Ro_copy_19 ((hu_ne (by omega)).trans p2) rfl ?_
  refine g_put fa_Ro_15 d_Ro_copy_22 ((hu_ne (by omega)).trans p0) (Nat.le_of_ble_eq_true rfl) rfl rfl rfl ?_
  refine g_vret d_Ro_copy_25 rfl ?_ (by decide) (by decide)
  exact ⟨rfl, fun q e0 e1 => ((hu_ne (by omega)).trans ((hu_ne (by omega)).trans rfl)), rfl, ((hu_ne (by omega)).trans (hu_same _ _ _)), (hu_same _ _ _)⟩
def k_St_coder : MS := ("java/lang/String", b_St_coder, 1, (some .byte), "coder", { frames := 0, cells := 0, slots := 0, locals := 0 }, [])
set_option maxRecDepth 100000 in
set_option maxHeartbeats 4000000 in
theorem c_St_coder (Γ : GE) (li : Nat) {M : HM} {n : Nat} (hl : li < nLit)  : CT Γ k_St_coder y_St_coder [.ref (Γ.2.2.2.1 li)] M (n) (fun v M' n' => n = n' ∧ (∀ q, M' q = M q) ∧ v = some (.int (iI (0)))) := by
  refine CT.of (by decide) rfl rfl 0 rfl (Nat.le_of_ble_eq_true rfl) rfl ?_
  refine g_compact w_350 d_St_coder_0 ?_
  refine g_if_eq (tgt := 13) d_St_coder_3 (by decide) (fun h1 => False.elim (by omega)) (fun _ => ?_)
  refine g_aload_n d_St_coder_6 rfl ?_
  refine g_litCoder hl w_984 d_St_coder_7 ?_
  refine g_goto (tgt := 14) d_St_coder_10 (by decide) ?_
  refine g_zret (ty := .byte) (by first | rfl | exact nar_char (by omega)) d_St_coder_14 rfl ?_ (by decide) (by decide)
  exact ⟨rfl, fun q  => rfl, rfl⟩
def k_St_isLatin1 : MS := ("java/lang/String", b_St_isLatin1, 1, (some .boolean), "isLatin1", { frames := 0, cells := 0, slots := 0, locals := 0 }, [])
set_option maxRecDepth 100000 in
set_option maxHeartbeats 4000000 in
theorem c_St_isLatin1 (Γ : GE) (li : Nat) {M : HM} {n : Nat} (hl : li < nLit)  : CT Γ k_St_isLatin1 y_St_isLatin1 [.ref (Γ.2.2.2.1 li)] M (n) (fun v M' n' => n = n' ∧ (∀ q, M' q = M q) ∧ v = some (.int (iI (1)))) := by
  refine CT.of (by decide) rfl rfl 0 rfl (Nat.le_of_ble_eq_true rfl) rfl ?_
  refine g_compact w_350 d_St_isLatin1_0 ?_
  refine g_if_eq (tgt := 17) d_St_isLatin1_3 (by decide) (fun h1 => False.elim (by omega)) (fun _ => ?_)
  refine g_aload_n d_St_isLatin1_6 rfl ?_
  refine g_litCoder hl w_984 d_St_isLatin1_7 ?_
  refine g_if_ne (tgt := 17) d_St_isLatin1_10 (by decide) (fun h2 => False.elim (by omega)) (fun _ => ?_)
  refine g_iconst d_St_isLatin1_13 ?_
  refine g_goto (tgt := 18) d_St_isLatin1_14 (by decide) ?_
  refine g_zret (ty := .boolean) (by first | rfl | exact nar_char (by omega)) d_St_isLatin1_18 rfl ?_ (by decide) (by decide)
  exact ⟨rfl, fun q  => rfl, rfl⟩
def k_St_length : MS := ("java/lang/String", b_St_length, 1, (some .int), "length", { frames := 1, cells := 0, slots := 0, locals := 20 }, [])
set_option maxRecDepth 100000 in
set_option maxHeartbeats 4000000 in
theorem c_St_length (Γ : GE) (li : Nat) {M : HM} {n : Nat} (hl : li < nLit)  : CT Γ k_St_length y_St_length [.ref (Γ.2.2.2.1 li)] M (n) (fun v M' n' => n = n' ∧ (∀ q, M' q = M q) ∧ v = some (.int (iI ((lenLit.getD li 0 : Nat))))) := by
  refine CT.of (by decide) rfl rfl 0 rfl (Nat.le_of_ble_eq_true rfl) rfl ?_
  refine g_aload_n d_St_length_0 rfl ?_
  refine g_litValue hl w_983 d_St_length_1 ?_
  refine g_litLen hl d_St_length_4 ?_
  refine g_aload_n d_St_length_5 rfl ?_
  refine g_callL0 (ν := k_St_coder) hl ⟨w_346, w_43, w_349, by decide, by decide, by decide +kernel⟩ w_347 w_348 rfl (c_St_coder Γ (li) (by first | omega | decide | (have h9 := lenLit_le li; omega)) ) d_St_length_6 ⟨⟨by decide, by decide⟩, ⟨by decide, by decide⟩⟩ (Nat.le_of_ble_eq_true rfl) (fun v1 M1 n1 hQ1 hn1 hd1 => ?_)
  obtain ⟨rfl, hf1, rfl⟩ := hQ1
  refine g_ishr d_St_length_9 (shr0 _) ?_
  refine g_iret d_St_length_10 rfl ?_ (by decide) (by decide)
  exact ⟨rfl, fun q  => ((hf1 q ).trans rfl), rfl⟩
def k_Pr_ci0 : MS := ("jdk/internal/util/Preconditions", b_Pr_checkIndex, 3, (some .int), "checkIndex", { frames := 0, cells := 0, slots := 0, locals := 0 }, [])
set_option maxRecDepth 100000 in
set_option maxHeartbeats 4000000 in
theorem c_Pr_ci0 (Γ : GE) (j : Int) (m : Int) {M : HM} {n : Nat} (j0 : 0 ≤ j) (j1 : j < m) (j2 : m ≤ 40)  : CT Γ k_Pr_ci0 y_Pr_checkIndex [.int (iI (j)), .int (iI (m)), .null] M (n) (fun v M' n' => n = n' ∧ (∀ q, M' q = M q) ∧ v = some (.int (iI (j)))) := by
  refine CT.of (by decide) rfl rfl 0 rfl (Nat.le_of_ble_eq_true rfl) rfl ?_
  refine g_iload_n d_Pr_checkIndex_0 rfl ?_
  refine g_if_lt (tgt := 9) d_Pr_checkIndex_1 (by decide) (fun h1 => False.elim (by omega)) (fun h1 => ?_)
  refine g_iload_n d_Pr_checkIndex_4 rfl ?_
  refine g_iload_n d_Pr_checkIndex_5 rfl ?_
  refine g_icmp_lt (tgt := 16) d_Pr_checkIndex_6 (by decide) (fun h2 => ?_) (fun h2 => False.elim (by omega))
  refine g_iload_n d_Pr_checkIndex_16 rfl ?_
  refine g_iret d_Pr_checkIndex_17 rfl ?_ (by decide) (by decide)
  exact ⟨rfl, fun q  => rfl, rfl⟩
def k_Pr_ci1 : MS := ("jdk/internal/util/Preconditions", b_Pr_checkIndex, 3, (some .int), "checkIndex", { frames := 0, cells := 0, slots := 0, locals := 0 }, [])
set_option maxRecDepth 100000 in
set_option maxHeartbeats 4000000 in
theorem c_Pr_ci1 (Γ : GE) (j : Int) (m : Int) (q : Nat) {M : HM} {n : Nat} (j0 : 0 ≤ j) (j1 : j < m) (j2 : m ≤ 40)  : CT Γ k_Pr_ci1 y_Pr_checkIndex [.int (iI (j)), .int (iI (m)), .ref (q)] M (n) (fun v M' n' => n = n' ∧ (∀ q, M' q = M q) ∧ v = some (.int (iI (j)))) := by
  refine CT.of (by decide) rfl rfl 0 rfl (Nat.le_of_ble_eq_true rfl) rfl ?_
  refine g_iload_n d_Pr_checkIndex_0 rfl ?_
  refine g_if_lt (tgt := 9) d_Pr_checkIndex_1 (by decide) (fun h1 => False.elim (by omega)) (fun h1 => ?_)
  refine g_iload_n d_Pr_checkIndex_4 rfl ?_
  refine g_iload_n d_Pr_checkIndex_5 rfl ?_
  refine g_icmp_lt (tgt := 16) d_Pr_checkIndex_6 (by decide) (fun h2 => ?_) (fun h2 => False.elim (by omega))
  refine g_iload_n d_Pr_checkIndex_16 rfl ?_
  refine g_iret d_Pr_checkIndex_17 rfl ?_ (by decide) (by decide)
  exact ⟨rfl, fun q  => rfl, rfl⟩
def k_St_checkIndex : MS := ("java/lang/String", b_St_checkIndex, 2, none, "checkIndex", { frames := 1, cells := 0, slots := 0, locals := 22 }, [])
set_option maxRecDepth 100000 in
set_option maxHeartbeats 4000000 in
theorem c_St_checkIndex (Γ : GE) (j : Int) (m : Int) {M : HM} {n : Nat} (j0 : 0 ≤ j) (j1 : j < m) (j2 : m ≤ 40)  : CT Γ k_St_checkIndex y_St_checkIndex [.int (iI (j)), .int (iI (m))] M (n) (fun v M' n' => n = n' ∧ (∀ q, M' q = M q) ∧ v = none) := by
  refine CT.of (by decide) rfl rfl 0 rfl (Nat.le_of_ble_eq_true rfl) rfl ?_
  refine g_iload_n d_St_checkIndex_0 rfl ?_
  refine g_iload_n d_St_checkIndex_1 rfl ?_
  refine g_siob w_366 d_St_checkIndex_2 ?_ (fun q1 => ?_)
  · skip
    refine g_callS3 (ν := k_Pr_ci0) ⟨w_368, w_45, w_370, by decide, by decide, by decide +kernel⟩ w_369 (c_Pr_ci0 Γ (j) (m) (by omega) (by omega) (by omega) ) d_St_checkIndex_5 ⟨⟨by decide, by decide⟩, ⟨by decide, by decide⟩⟩ (Nat.le_of_ble_eq_true rfl) (fun v2 M2 n2 hQ2 hn2 hd2 => ?_)
    obtain ⟨rfl, hf2, rfl⟩ := hQ2
    refine g_pop d_St_checkIndex_8 rfl ?_
    refine g_vret d_St_checkIndex_9 rfl ?_ (by decide) (by decide)
    exact ⟨rfl, fun q  => ((hf2 q ).trans rfl), rfl⟩
  · skip
    refine g_callS3 (ν := k_Pr_ci1) ⟨w_368, w_45, w_370, by decide, by decide, by decide +kernel⟩ w_369 (c_Pr_ci1 Γ (j) (m) (q1) (by omega) (by omega) (by omega) ) d_St_checkIndex_5 ⟨⟨by decide, by decide⟩, ⟨by decide, by decide⟩⟩ (Nat.le_of_ble_eq_true rfl) (fun v3 M3 n3 hQ3 hn3 hd3 => ?_)
    obtain ⟨rfl, hf3, rfl⟩ := hQ3
    refine g_pop d_St_checkIndex_8 rfl ?_
    refine g_vret d_St_checkIndex_9 rfl ?_ (by decide) (by decide)
    exact ⟨rfl, fun q  => ((hf3 q ).trans rfl), rfl⟩
def k_L1_charAt : MS := ("java/lang/StringLatin1", b_L1_charAt, 2, (some .char), "charAt", { frames := 2, cells := 0, slots := 0, locals := 43 }, [])
set_option maxRecDepth 100000 in
set_option maxHeartbeats 4000000 in
theorem c_L1_charAt (Γ : GE) (li : Nat) (j : Int) {M : HM} {n : Nat} (hl : li < nLit) (j0 : 0 ≤ j) (j1 : j < (lenLit.getD li 0 : Nat)) (j2 : (lenLit.getD li 0 : Nat) ≤ 40)  : CT Γ k_L1_charAt y_L1_charAt [.ref (Γ.2.2.2.2 li), .int (iI (j))] M (n) (fun v M' n' => n = n' ∧ (∀ q, M' q = M q) ∧ ∃ (j2 : Nat), v = some (.int (iI ((j2 : Nat)))) ∧ j2 < 256) := by
  refine CT.of (by decide) rfl rfl 0 rfl (Nat.le_of_ble_eq_true rfl) rfl ?_
  refine g_iload_n d_L1_charAt_0 rfl ?_
  refine g_aload_n d_L1_charAt_1 rfl ?_
  refine g_litLen hl d_L1_charAt_2 ?_
  refine g_callS2 (ν := k_St_checkIndex) ⟨w_363, w_43, w_365, by decide, by decide, by decide +kernel⟩ w_364 (c_St_checkIndex Γ (j) ((lenLit.getD li 0 : Nat)) (by omega) (by omega) (by omega) ) d_L1_charAt_3 ⟨⟨by decide, by decide⟩, ⟨by decide, by decide⟩⟩ (Nat.le_of_ble_eq_true rfl) (fun v1 M1 n1 hQ1 hn1 hd1 => ?_)
  obtain ⟨rfl, hf1, rfl⟩ := hQ1
  refine g_aload_n d_L1_charAt_6 rfl ?_
  refine g_iload_n d_L1_charAt_7 rfl ?_
  refine g_litAt hl d_L1_charAt_8 (by omega) (by omega) (by have h9 := lenLit_le li; omega) (iI_of _).symm ?_
  refine g_sipush d_L1_charAt_9 (by decide) ?_
  obtain ⟨j2, hj2, ej2⟩ := and255 (iI (((bytLit.getD li []).getD (j : Int).toNat 0).toInt))
  refine g_iand d_L1_charAt_12 ej2 ?_
  refine g_i2c d_L1_charAt_13 (i2c_nat (by omega)) ?_
  refine g_zret (ty := .char) (by first | rfl | exact nar_char (by omega)) d_L1_charAt_14 rfl ?_ (by decide) (by decide)
  exact ⟨rfl, fun q  => ((hf1 q ).trans rfl), j2, rfl, hj2⟩
def k_St_charAt : MS := ("java/lang/String", b_St_charAt, 2, (some .char), "charAt", { frames := 3, cells := 0, slots := 0, locals := 64 }, [])
set_option maxRecDepth 100000 in
set_option maxHeartbeats 4000000 in
theorem c_St_charAt (Γ : GE) (li : Nat) (j : Int) {M : HM} {n : Nat} (hl : li < nLit) (j0 : 0 ≤ j) (j1 : j < (lenLit.getD li 0 : Nat)) (j2 : (lenLit.getD li 0 : Nat) ≤ 40)  : CT Γ k_St_charAt y_St_charAt [.ref (Γ.2.2.2.1 li), .int (iI (j))] M (n) (fun v M' n' => n = n' ∧ (∀ q, M' q = M q) ∧ ∃ (j3 : Nat), v = some (.int (iI ((j3 : Nat)))) ∧ j3 < 256) := by
  refine CT.of (by decide) rfl rfl 0 rfl (Nat.le_of_ble_eq_true rfl) rfl ?_
  refine g_aload_n d_St_charAt_0 rfl ?_
  refine g_callL0 (ν := k_St_isLatin1) hl ⟨w_356, w_43, w_359, by decide, by decide, by decide +kernel⟩ w_357 w_358 rfl (c_St_isLatin1 Γ (li) (by first | omega | decide | (have h9 := lenLit_le li; omega)) ) d_St_charAt_1 ⟨⟨by decide, by decide⟩, ⟨by decide, by decide⟩⟩ (Nat.le_of_ble_eq_true rfl) (fun v1 M1 n1 hQ1 hn1 hd1 => ?_)
  obtain ⟨rfl, hf1, rfl⟩ := hQ1
  refine g_if_eq (tgt := 16) d_St_charAt_4 (by decide) (fun h2 => False.elim (by omega)) (fun _ => ?_)
  refine g_aload_n d_St_charAt_7 rfl ?_
  refine g_litValue hl w_983 d_St_charAt_8 ?_
  refine g_iload_n d_St_charAt_11 rfl ?_
  refine g_callS2 (ν := k_L1_charAt) ⟨w_360, w_44, w_362, by decide, by decide, by decide +kernel⟩ w_361 (c_L1_charAt Γ (li) (j) (by first | omega | decide | (have h9 := lenLit_le li; omega)) (by first | omega | decide | (have h9 := lenLit_le li; omega)) (by first | omega | decide | (have h9 := lenLit_le li; omega)) (by first | omega | decide | (have h9 := lenLit_le li; omega)) ) d_St_charAt_12 ⟨⟨by decide, by decide⟩, ⟨by decide, by decide⟩⟩ (Nat.le_of_ble_eq_true rfl) (fun v3 M3 n3 hQ3 hn3 hd3 => ?_)
  obtain ⟨rfl, hf3, j3, rfl, hb3_j3_0⟩ := hQ3
  refine g_zret (ty := .char) (by first | rfl | exact nar_char (by omega)) d_St_charAt_15 rfl ?_ (by decide) (by decide)
  exact ⟨rfl, fun q  => ((hf3 q ).trans ((hf1 q ).trans rfl)), j3, rfl, hb3_j3_0⟩
def k_Ro_add : MS := ("VaryStore$Row", b_Ro_add, 2, none, "add", { frames := 0, cells := 0, slots := 0, locals := 0 }, [])
set_option maxRecDepth 100000 in
set_option maxHeartbeats 4000000 in
theorem c_Ro_add (Γ : GE) (a : Nat) (z : Int) (c : Int) (f : Nat → Int32) {M : HM} {n : Nat} (z0 : 0 ≤ z) (z1 : z < 300) (c0 : 0 ≤ c) (c1 : c < 65536) (p0 : M (a) = some (.inr (2, [.ref (a + 1), .int (iI (z))]))) (p1 : M (a + 1) = some (.inl (Γ.2.2.1 0, 300, .inl (f)))) : CT Γ k_Ro_add y_Ro_add [.ref (a), .int (iI (c))] M (n) (fun v M' n' => n = n' ∧ (∀ q, q ≠ a + 1 → q ≠ a → M' q = M q) ∧ v = none ∧ M' (a + 1) = some (.inl (Γ.2.2.1 0, 300, .inl (upd (f) (z : Int).toNat (iI (c))))) ∧ M' (a) = some (.inr (2, [.ref (a + 1), .int (iI ((z + 1)))]))) := by
  refine CT.of (by decide) rfl rfl 0 rfl (Nat.le_of_ble_eq_true rfl) rfl ?_
  refine g_aload_n d_Ro_add_0 rfl ?_
  refine g_get fa_Ro_15 d_Ro_add_1 p0 rfl ?_
  refine g_aload_n d_Ro_add_4 rfl ?_
  refine g_get fa_Ro_9 d_Ro_add_5 p0 rfl ?_
  refine g_alenN 0 rfl d_Ro_add_8 p1 ?_
  refine g_icmp_ge (tgt := 32) d_Ro_add_9 (by decide) (fun h1 => False.elim (by omega)) (fun h1 => ?_)
  refine g_aload_n d_Ro_add_12 rfl ?_
  refine g_get fa_Ro_9 d_Ro_add_13 p0 rfl ?_
  refine g_aload_n d_Ro_add_16 rfl ?_
  refine g_get fa_Ro_15 d_Ro_add_17 p0 rfl ?_
  refine g_iload_n d_Ro_add_20 rfl ?_
  refine g_cast d_Ro_add_21 p1 (by omega) (by omega) (by omega) (nar_charZ (by omega) (by omega)) ?_
  refine g_aload_n d_Ro_add_22 rfl ?_
  refine g_dup d_Ro_add_23 rfl ?_
  refine g_get fa_Ro_15 d_Ro_add_24 ((hu_ne (by omega)).trans p0) rfl ?_
  refine g_iconst d_Ro_add_27 ?_
  refine g_iadd d_Ro_add_28 ?_
  refine g_put fa_Ro_15 d_Ro_add_29 ((hu_ne (by omega)).trans p0) (Nat.le_of_ble_eq_true rfl) rfl rfl rfl ?_
  refine g_vret d_Ro_add_32 rfl ?_ (by decide) (by decide)
  exact ⟨rfl, fun q e0 e1 => ((hu_ne (by omega)).trans ((hu_ne (by omega)).trans rfl)), rfl, ((hu_ne (by omega)).trans (hu_same _ _ _)), (hu_same _ _ _)⟩
def Q_Ro_set (Γ : GE) (M : HM) (n a : Nat) : Option Value → HM → Nat → Prop := fun v M' n' => n = n' ∧ (∀ q, q ≠ a → q ≠ a + 1 → M' q = M q) ∧ ∃ (zs : Int) (fs : Nat → Int32), v = none ∧ 0 ≤ zs ∧ zs ≤ 40 ∧ M' (a) = some (.inr (2, [.ref (a + 1), .int (iI (zs))])) ∧ M' (a + 1) = some (.inl (Γ.2.2.1 0, 300, .inl (fs)))
def k_Ro_set : MS := ("VaryStore$Row", b_Ro_set, 3, none, "set", { frames := 4, cells := 0, slots := 0, locals := 85 }, [])
set_option maxRecDepth 100000 in
set_option maxHeartbeats 4000000 in
theorem c_Ro_set (Γ : GE) (a : Nat) (li : Nat) (z : Int) (f : Nat → Int32) {M : HM} {n : Nat} (hl : li < nLit) (p0 : M (a) = some (.inr (2, [.ref (a + 1), .int (iI (z))]))) (p1 : M (a + 1) = some (.inl (Γ.2.2.1 0, 300, .inl (f)))) : CT Γ k_Ro_set y_Ro_set [.ref (a), .ref (Γ.2.2.2.1 li)] M (n) (Q_Ro_set Γ M n a) := by
  refine CT.of (by decide) rfl rfl 1 rfl (Nat.le_of_ble_eq_true rfl) rfl ?_
  have loop : ∀ (k : Nat) (i : Int) (M1 : HM) (f1 : Nat → Int32), 0 ≤ i → i ≤ (lenLit.getD li 0 : Nat) → ((lenLit.getD li 0 : Nat) : Int) - i < k → (∀ q, q ≠ a → q ≠ a + 1 → M1 q = M q) → M1 (a) = some (.inr (2, [.ref (a + 1), .int (iI (i))])) → M1 (a + 1) = some (.inl (Γ.2.2.1 0, 300, .inl (f1))) → G Γ k_Ro_set (AA M n) (EM Γ k_Ro_set (AA M n) (Q_Ro_set Γ M n a)) 0 0 M1 n 7 [some (.ref a), some (.ref (Γ.2.2.2.1 li)), some (.int (iI i))] [] := by
    have hL := lenLit_le li
    intro k
    induction k with
    | zero => intro i M1 f1 i0 i1 i2; omega
    | succ k ih =>
      intro i M1 f1 i0 i1 i2 hfr q0 q1
      refine g_iload_n d_Ro_set_7 rfl ?_
      refine g_aload_n d_Ro_set_8 rfl ?_
      refine g_callL0 (ν := k_St_length) hl ⟨w_342, w_43, w_345, by decide, by decide, by decide +kernel⟩ w_343 w_344 rfl (c_St_length Γ (li) (by first | omega | decide | (have h9 := lenLit_le li; omega)) ) d_Ro_set_9 ⟨⟨by decide, by decide⟩, ⟨by decide, by decide⟩⟩ (Nat.le_of_ble_eq_true rfl) (fun v1 M1 n1 hQ1 hn1 hd1 => ?_)
      obtain ⟨rfl, hf1, rfl⟩ := hQ1
      refine g_icmp_ge (tgt := 30) d_Ro_set_12 (by decide) (fun h2 => ?_) (fun h2 => ?_)
      · skip
        refine g_vret d_Ro_set_30 rfl ?_ (by decide) (by decide)
        exact ⟨rfl, fun q e0 e1 => ((hf1 q ).trans (hfr q e0 e1)), _, _, rfl, by omega, by omega, ((hf1 (a) ).trans q0), ((hf1 (a + 1) ).trans q1)⟩
      · skip
        refine g_aload_n d_Ro_set_15 rfl ?_
        refine g_aload_n d_Ro_set_16 rfl ?_
        refine g_iload_n d_Ro_set_17 rfl ?_
        refine g_callL1 (ν := k_St_charAt) hl ⟨w_352, w_43, w_355, by decide, by decide, by decide +kernel⟩ w_353 w_354 rfl (c_St_charAt Γ (li) (i) (by first | omega | decide | (have h9 := lenLit_le li; omega)) (by first | omega | decide | (have h9 := lenLit_le li; omega)) (by first | omega | decide | (have h9 := lenLit_le li; omega)) (by first | omega | decide | (have h9 := lenLit_le li; omega)) ) d_Ro_set_18 ⟨⟨by decide, by decide⟩, ⟨by decide, by decide⟩⟩ (Nat.le_of_ble_eq_true rfl) (fun v3 M3 n3 hQ3 hn3 hd3 => ?_)
        obtain ⟨rfl, hf3, j3, rfl, hb3_j3_0⟩ := hQ3
        refine g_callV1 (ν := k_Ro_add) ⟨w_390, w_31, w_185, by decide, by decide, by decide +kernel⟩ w_183 w_184 (c_Ro_add Γ (a) (i) ((j3 : Nat)) (f1) (by omega) (by omega) (by omega) (by omega) ((hf3 (a) ).trans ((hf1 (a) ).trans q0)) ((hf3 (a + 1) ).trans ((hf1 (a + 1) ).trans q1))) d_Ro_set_21 ((hf3 (a) ).trans ((hf1 (a) ).trans q0)) rfl rfl ⟨⟨by decide, by decide⟩, ⟨by decide, by decide⟩⟩ (Nat.le_of_ble_eq_true rfl) (fun v4 M4 n4 hQ4 hn4 hd4 => ?_)
        obtain ⟨rfl, hf4, rfl, hw4_0, hw4_1⟩ := hQ4
        refine g_iinc d_Ro_set_24 rfl (by decide) rfl ?_
        refine g_goto (tgt := 7) d_Ro_set_27 (by decide) ?_
        exact ih _ _ _ (by omega) (by omega) (by omega) (fun q e0 e1 => ((hf4 q (by omega) (by omega)).trans ((hf3 q ).trans ((hf1 q ).trans (hfr q e0 e1))))) hw4_1 hw4_0
  refine g_aload_n d_Ro_set_0 rfl ?_
  refine g_iconst d_Ro_set_1 ?_
  refine g_put fa_Ro_15 d_Ro_set_2 p0 (Nat.le_of_ble_eq_true rfl) rfl rfl rfl ?_
  refine g_iconst d_Ro_set_5 ?_
  refine g_istore_n d_Ro_set_6 (by decide) rfl ?_
  exact loop 100 0 _ _ (by omega) (by omega) (by have h9 := lenLit_le li; omega) (fun q e0 e1 => ((hu_ne (by omega)).trans rfl)) (hu_same _ _ _) ((hu_ne (by omega)).trans p1)
def k_Ro_skip0 : MS := ("VaryStore$Row", b_Ro_skipBlanks, 4, (some .int), "skipBlanks", { frames := 0, cells := 0, slots := 0, locals := 0 }, [])
set_option maxRecDepth 100000 in
set_option maxHeartbeats 4000000 in
theorem c_Ro_skip0 (Γ : GE) (a : Nat) {M : HM} {n : Nat}   : CT Γ k_Ro_skip0 y_Ro_skipBlanks [.ref (a), .int (iI (0)), .int (iI (0))] M (n) (fun v M' n' => n = n' ∧ (∀ q, M' q = M q) ∧ v = some (.int (iI (0)))) := by
  refine CT.of (by decide) rfl rfl 1 rfl (Nat.le_of_ble_eq_true rfl) rfl ?_
  refine g_iload_n d_Ro_skipBlanks_0 rfl ?_
  refine g_istore_n d_Ro_skipBlanks_1 (by decide) rfl ?_
  refine g_iload_n d_Ro_skipBlanks_2 rfl ?_
  refine g_iload_n d_Ro_skipBlanks_3 rfl ?_
  refine g_icmp_ge (tgt := 23) d_Ro_skipBlanks_4 (by decide) (fun _ => ?_) (fun h1 => False.elim (by omega))
  refine g_iload_n d_Ro_skipBlanks_23 rfl ?_
  refine g_iret d_Ro_skipBlanks_24 rfl ?_ (by decide) (by decide)
  exact ⟨rfl, fun q  => rfl, rfl⟩
def k_Ro_skipb0 : MS := ("VaryStore$Row", b_Ro_skipBlanksBack, 4, (some .int), "skipBlanksBack", { frames := 0, cells := 0, slots := 0, locals := 0 }, [])
set_option maxRecDepth 100000 in
set_option maxHeartbeats 4000000 in
theorem c_Ro_skipb0 (Γ : GE) (a : Nat) {M : HM} {n : Nat}   : CT Γ k_Ro_skipb0 y_Ro_skipBlanksBack [.ref (a), .int (iI (0)), .int (iI (0))] M (n) (fun v M' n' => n = n' ∧ (∀ q, M' q = M q) ∧ v = some (.int (iI (0)))) := by
  refine CT.of (by decide) rfl rfl 1 rfl (Nat.le_of_ble_eq_true rfl) rfl ?_
  refine g_iload_n d_Ro_skipBlanksBack_0 rfl ?_
  refine g_istore_n d_Ro_skipBlanksBack_1 (by decide) rfl ?_
  refine g_iload_n d_Ro_skipBlanksBack_2 rfl ?_
  refine g_iload_n d_Ro_skipBlanksBack_3 rfl ?_
  refine g_icmp_le (tgt := 25) d_Ro_skipBlanksBack_4 (by decide) (fun _ => ?_) (fun h1 => False.elim (by omega))
  refine g_iload_n d_Ro_skipBlanksBack_25 rfl ?_
  refine g_iret d_Ro_skipBlanksBack_26 rfl ?_ (by decide) (by decide)
  exact ⟨rfl, fun q  => rfl, rfl⟩
def k_Te_gather0 : MS := ("VaryStore$Text", b_Te_gather, 6, (some .boolean), "gather", { frames := 1, cells := 0, slots := 0, locals := 20 }, [])
set_option maxRecDepth 100000 in
set_option maxHeartbeats 4000000 in
theorem c_Te_gather0 (Γ : GE) (t : Nat) (m : Nat) (c : Nat) (x : Nat) (z : Int) {M : HM} {n : Nat} (htc : t ≠ c) (p0 : M (t) = some (.inr (4, [.ref (t + 1), .ref (t + 3), .ref (t + 4), .ref (t + 5), .int (iI (0))]))) (p1 : M (c) = some (.inr (2, [.ref (x), .int (iI (z))]))) : CT Γ k_Te_gather0 y_Te_gather [.ref (t), .ref (m), .ref (c)] M (n) (fun v M' n' => n = n' ∧ (∀ q, q ≠ c → M' q = M q) ∧ v = some (.int (iI (0))) ∧ M' (c) = some (.inr (2, [.ref (x), .int (iI (0))]))) := by
  refine CT.of (by decide) rfl rfl 3 rfl (Nat.le_of_ble_eq_true rfl) rfl ?_
  refine g_iconst d_Te_gather_0 ?_
  refine g_istore_n d_Te_gather_1 (by decide) rfl ?_
  refine g_aload_n d_Te_gather_2 rfl ?_
  refine g_callV0 (ν := k_Ro_clear) ⟨w_395, w_31, w_260, by decide, by decide, by decide +kernel⟩ w_258 w_259 (c_Ro_clear Γ (c) (x) (z)  p1) d_Te_gather_3 p1 rfl rfl ⟨⟨by decide, by decide⟩, ⟨by decide, by decide⟩⟩ (Nat.le_of_ble_eq_true rfl) (fun v1 M1 n1 hQ1 hn1 hd1 => ?_)
  obtain ⟨rfl, hf1, rfl, hw1_0⟩ := hQ1
  refine g_iconst d_Te_gather_6 ?_
  refine g_istore d_Te_gather_7 (by decide) rfl ?_
  refine g_iload d_Te_gather_9 rfl ?_
  refine g_aload_n d_Te_gather_11 rfl ?_
  refine g_get fa_Te_28 d_Te_gather_12 ((hf1 (t) (by omega)).trans p0) rfl ?_
  refine g_icmp_ge (tgt := 127) d_Te_gather_15 (by decide) (fun _ => ?_) (fun h2 => False.elim (by omega))
  refine g_iload_n d_Te_gather_127 rfl ?_
  refine g_zret (ty := .boolean) (by first | rfl | decide) d_Te_gather_128 rfl ?_ (by decide) (by decide)
  exact ⟨rfl, fun q e0 => ((hf1 q (by omega)).trans rfl), rfl, hw1_0⟩
def k_It_addItem0 : MS := ("VaryStore$Items", b_It_addItem, 6, none, "addItem", { frames := 1, cells := 0, slots := 0, locals := 23 }, [])
set_option maxRecDepth 100000 in
set_option maxHeartbeats 4000000 in
theorem c_It_addItem0 (Γ : GE) (s : Nat) (v : Nat) (x : Nat) {M : HM} {n : Nat}  (p0 : M (v) = some (.inr (2, [.ref (x), .int (iI (0))]))) : CT Γ k_It_addItem0 y_It_addItem [.ref (s), .ref (v), .int (iI (0)), .int (iI (0))] M (n) (fun v M' n' => n = n' ∧ (∀ q, M' q = M q) ∧ v = none) := by
  refine CT.of (by decide) rfl rfl 2 rfl (Nat.le_of_ble_eq_true rfl) rfl ?_
  refine g_aload_n d_It_addItem_0 rfl ?_
  refine g_iload_n d_It_addItem_1 rfl ?_
  refine g_iload_n d_It_addItem_2 rfl ?_
  refine g_callV2 (ν := k_Ro_skip0) ⟨w_424, w_31, w_405, by decide, by decide, by decide +kernel⟩ w_403 w_404 (c_Ro_skip0 Γ (v)  ) d_It_addItem_3 p0 rfl rfl ⟨⟨by decide, by decide⟩, ⟨by decide, by decide⟩⟩ (Nat.le_of_ble_eq_true rfl) (fun v1 M1 n1 hQ1 hn1 hd1 => ?_)
  obtain ⟨rfl, hf1, rfl⟩ := hQ1
  refine g_istore d_It_addItem_6 (by decide) rfl ?_
  refine g_aload_n d_It_addItem_8 rfl ?_
  refine g_iload d_It_addItem_9 rfl ?_
  refine g_iload_n d_It_addItem_11 rfl ?_
  refine g_callV2 (ν := k_Ro_skipb0) ⟨w_425, w_31, w_409, by decide, by decide, by decide +kernel⟩ w_407 w_408 (c_Ro_skipb0 Γ (v)  ) d_It_addItem_12 ((hf1 (v) ).trans p0) rfl rfl ⟨⟨by decide, by decide⟩, ⟨by decide, by decide⟩⟩ (Nat.le_of_ble_eq_true rfl) (fun v2 M2 n2 hQ2 hn2 hd2 => ?_)
  obtain ⟨rfl, hf2, rfl⟩ := hQ2
  refine g_istore d_It_addItem_15 (by decide) rfl ?_
  refine g_iload d_It_addItem_17 rfl ?_
  refine g_iload d_It_addItem_19 rfl ?_
  refine g_icmp_ge (tgt := 36) d_It_addItem_21 (by decide) (fun _ => ?_) (fun h3 => False.elim (by omega))
  refine g_vret d_It_addItem_36 rfl ?_ (by decide) (by decide)
  exact ⟨rfl, fun q  => ((hf2 q ).trans ((hf1 q ).trans rfl)), rfl⟩
def k_It_cut0 : MS := ("VaryStore$Items", b_It_cut, 4, none, "cut", { frames := 2, cells := 0, slots := 0, locals := 48 }, [])
set_option maxRecDepth 100000 in
set_option maxHeartbeats 4000000 in
theorem c_It_cut0 (Γ : GE) (s : Nat) (v : Nat) (cc : Int) (z : Int) (y : Nat) (e : Nat) (x : Nat) {M : HM} {n : Nat} (h1 : v ≠ s) (h2 : v ≠ s + 1) (p0 : M (s) = some (.inr (1, [.ref (s + 1), .ref (e), .int (iI (cc))]))) (p1 : M (s + 1) = some (.inr (2, [.ref (y), .int (iI (z))]))) (p2 : M (v) = some (.inr (2, [.ref (x), .int (iI (0))]))) : CT Γ k_It_cut0 y_It_cut [.ref (s), .ref (v)] M (n) (fun v M' n' => n = n' ∧ (∀ q, q ≠ s + 1 → q ≠ s → M' q = M q) ∧ v = none ∧ M' (s + 1) = some (.inr (2, [.ref (y), .int (iI (0))])) ∧ M' (s) = some (.inr (1, [.ref (s + 1), .ref (e), .int (iI (0))]))) := by
  refine CT.of (by decide) rfl rfl 2 rfl (Nat.le_of_ble_eq_true rfl) rfl ?_
  refine g_aload_n d_It_cut_0 rfl ?_
  refine g_get fa_It_12 d_It_cut_1 p0 rfl ?_
  refine g_callV0 (ν := k_Ro_clear) ⟨w_418, w_31, w_260, by decide, by decide, by decide +kernel⟩ w_258 w_259 (c_Ro_clear Γ (s + 1) (y) (z)  p1) d_It_cut_4 p1 rfl rfl ⟨⟨by decide, by decide⟩, ⟨by decide, by decide⟩⟩ (Nat.le_of_ble_eq_true rfl) (fun v1 M1 n1 hQ1 hn1 hd1 => ?_)
  obtain ⟨rfl, hf1, rfl, hw1_0⟩ := hQ1
  refine g_aload_n d_It_cut_7 rfl ?_
  refine g_iconst d_It_cut_8 ?_
  refine g_put fa_It_22 d_It_cut_9 ((hf1 (s) (by omega)).trans p0) (Nat.le_of_ble_eq_true rfl) rfl rfl rfl ?_
  refine g_iconst d_It_cut_12 ?_
  refine g_istore_n d_It_cut_13 (by decide) rfl ?_
  refine g_iconst d_It_cut_14 ?_
  refine g_istore_n d_It_cut_15 (by decide) rfl ?_
  refine g_iload_n d_It_cut_16 rfl ?_
  refine g_aload_n d_It_cut_17 rfl ?_
  refine g_get fa_It_29 d_It_cut_18 ((hu_ne (by omega)).trans ((hf1 (v) (by omega)).trans p2)) rfl ?_
  refine g_icmp_gt (tgt := 59) d_It_cut_21 (by decide) (fun h2 => False.elim (by omega)) (fun _ => ?_)
  refine g_iload_n d_It_cut_24 rfl ?_
  refine g_aload_n d_It_cut_25 rfl ?_
  refine g_get fa_It_29 d_It_cut_26 ((hu_ne (by omega)).trans ((hf1 (v) (by omega)).trans p2)) rfl ?_
  refine g_icmp_eq (tgt := 42) d_It_cut_29 (by decide) (fun _ => ?_) (fun h3 => False.elim (by omega))
  refine g_aload_n d_It_cut_42 rfl ?_
  refine g_aload_n d_It_cut_43 rfl ?_
  refine g_iload_n d_It_cut_44 rfl ?_
  refine g_iload_n d_It_cut_45 rfl ?_
  refine g_callV3 (ν := k_It_addItem0) ⟨w_420, w_34, w_423, by decide, by decide, by decide +kernel⟩ w_422 w_6 (c_It_addItem0 Γ (s) (v) (x)  ((hu_ne (by omega)).trans ((hf1 (v) (by omega)).trans p2))) d_It_cut_46 (hu_same _ _ _) rfl rfl ⟨⟨by decide, by decide⟩, ⟨by decide, by decide⟩⟩ (Nat.le_of_ble_eq_true rfl) (fun v4 M4 n4 hQ4 hn4 hd4 => ?_)
  obtain ⟨rfl, hf4, rfl⟩ := hQ4
  refine g_iload_n d_It_cut_49 rfl ?_
  refine g_iconst d_It_cut_50 ?_
  refine g_iadd d_It_cut_51 ?_
  refine g_istore_n d_It_cut_52 (by decide) rfl ?_
  refine g_iinc d_It_cut_53 rfl (by decide) rfl ?_
  refine g_goto (tgt := 16) d_It_cut_56 (by decide) ?_
  refine g_iload_n d_It_cut_16 rfl ?_
  refine g_aload_n d_It_cut_17 rfl ?_
  refine g_get fa_It_29 d_It_cut_18 ((hf4 (v) ).trans ((hu_ne (by omega)).trans ((hf1 (v) (by omega)).trans p2))) rfl ?_
  refine g_icmp_gt (tgt := 59) d_It_cut_21 (by decide) (fun _ => ?_) (fun h5 => False.elim (by omega))
  refine g_vret d_It_cut_59 rfl ?_ (by decide) (by decide)
  exact ⟨rfl, fun q e0 e1 => ((hf4 q ).trans ((hu_ne (by omega)).trans ((hf1 q (by omega)).trans rfl))), rfl, ((hf4 (s + 1) ).trans ((hu_ne (by omega)).trans hw1_0)), ((hf4 (s) ).trans (hu_same _ _ _))⟩
def k_It_said0 : MS := ("VaryStore$Items", b_It_said, 5, (some .int), "said", { frames := 0, cells := 0, slots := 0, locals := 0 }, [])
set_option maxRecDepth 100000 in
set_option maxHeartbeats 4000000 in
theorem c_It_said0 (Γ : GE) (s : Nat) (li : Nat) (r : Nat) (e : Nat) {M : HM} {n : Nat}  (p0 : M (s) = some (.inr (1, [.ref (r), .ref (e), .int (iI (0))]))) : CT Γ k_It_said0 y_It_said [.ref (s), .ref (Γ.2.2.2.1 li)] M (n) (fun v M' n' => n = n' ∧ (∀ q, M' q = M q) ∧ v = some (.int (iI ((-2))))) := by
  refine CT.of (by decide) rfl rfl 3 rfl (Nat.le_of_ble_eq_true rfl) rfl ?_
  refine g_bipush d_It_said_0 (by decide) ?_
  refine g_istore_n d_It_said_2 (by decide) rfl ?_
  refine g_iconst d_It_said_3 ?_
  refine g_istore_n d_It_said_4 (by decide) rfl ?_
  refine g_iload_n d_It_said_5 rfl ?_
  refine g_aload_n d_It_said_6 rfl ?_
  refine g_get fa_It_22 d_It_said_7 p0 rfl ?_
  refine g_icmp_ge (tgt := 46) d_It_said_10 (by decide) (fun _ => ?_) (fun h1 => False.elim (by omega))
  refine g_iload_n d_It_said_46 rfl ?_
  refine g_iret d_It_said_47 rfl ?_ (by decide) (by decide)
  exact ⟨rfl, fun q  => rfl, rfl⟩
def k_It_has0 : MS := ("VaryStore$Items", b_It_has, 2, (some .boolean), "has", { frames := 1, cells := 0, slots := 0, locals := 24 }, [])
set_option maxRecDepth 100000 in
set_option maxHeartbeats 4000000 in
theorem c_It_has0 (Γ : GE) (s : Nat) (li : Nat) (r : Nat) (e : Nat) {M : HM} {n : Nat}  (p0 : M (s) = some (.inr (1, [.ref (r), .ref (e), .int (iI (0))]))) : CT Γ k_It_has0 y_It_has [.ref (s), .ref (Γ.2.2.2.1 li)] M (n) (fun v M' n' => n = n' ∧ (∀ q, M' q = M q) ∧ v = some (.int (iI (0)))) := by
  refine CT.of (by decide) rfl rfl 0 rfl (Nat.le_of_ble_eq_true rfl) rfl ?_
  refine g_aload_n d_It_has_0 rfl ?_
  refine g_aload_n d_It_has_1 rfl ?_
  refine g_callV1 (ν := k_It_said0) ⟨w_490, w_34, w_469, by decide, by decide, by decide +kernel⟩ w_467 w_468 (c_It_said0 Γ (s) (li) (r) (e)  p0) d_It_has_2 p0 rfl rfl ⟨⟨by decide, by decide⟩, ⟨by decide, by decide⟩⟩ (Nat.le_of_ble_eq_true rfl) (fun v1 M1 n1 hQ1 hn1 hd1 => ?_)
  obtain ⟨rfl, hf1, rfl⟩ := hQ1
  refine g_bipush d_It_has_5 (by decide) ?_
  refine g_icmp_eq (tgt := 14) d_It_has_7 (by decide) (fun _ => ?_) (fun h2 => False.elim (by omega))
  refine g_iconst d_It_has_14 ?_
  refine g_zret (ty := .boolean) (by first | rfl | decide) d_It_has_15 rfl ?_ (by decide) (by decide)
  exact ⟨rfl, fun q  => ((hf1 q ).trans rfl), rfl⟩
def k_It_holds0 : MS := ("VaryStore$Items", b_It_holds, 4, (some .boolean), "holds", { frames := 0, cells := 0, slots := 0, locals := 0 }, [])
set_option maxRecDepth 100000 in
set_option maxHeartbeats 4000000 in
theorem c_It_holds0 (Γ : GE) (s : Nat) (li : Nat) (r : Nat) (e : Nat) {M : HM} {n : Nat}  (p0 : M (s) = some (.inr (1, [.ref (r), .ref (e), .int (iI (0))]))) : CT Γ k_It_holds0 y_It_holds [.ref (s), .ref (Γ.2.2.2.1 li)] M (n) (fun v M' n' => n = n' ∧ (∀ q, M' q = M q) ∧ v = some (.int (iI (0)))) := by
  refine CT.of (by decide) rfl rfl 2 rfl (Nat.le_of_ble_eq_true rfl) rfl ?_
  refine g_iconst d_It_holds_0 ?_
  refine g_istore_n d_It_holds_1 (by decide) rfl ?_
  refine g_iload_n d_It_holds_2 rfl ?_
  refine g_aload_n d_It_holds_3 rfl ?_
  refine g_get fa_It_22 d_It_holds_4 p0 rfl ?_
  refine g_icmp_ge (tgt := 47) d_It_holds_7 (by decide) (fun _ => ?_) (fun h1 => False.elim (by omega))
  refine g_iconst d_It_holds_47 ?_
  refine g_zret (ty := .boolean) (by first | rfl | decide) d_It_holds_48 rfl ?_ (by decide) (by decide)
  exact ⟨rfl, fun q  => rfl, rfl⟩
def k_Ro_number0 : MS := ("VaryStore$Row", b_Ro_number, 5, (some .int), "number", { frames := 0, cells := 0, slots := 0, locals := 0 }, [])
set_option maxRecDepth 100000 in
set_option maxHeartbeats 4000000 in
theorem c_Ro_number0 (Γ : GE) (a : Nat) {M : HM} {n : Nat}   : CT Γ k_Ro_number0 y_Ro_number [.ref (a), .int (iI (0)), .int (iI (0))] M (n) (fun v M' n' => n = n' ∧ (∀ q, M' q = M q) ∧ v = some (.int (iI ((-1))))) := by
  refine CT.of (by decide) rfl rfl 2 rfl (Nat.le_of_ble_eq_true rfl) rfl ?_
  refine g_iload_n d_Ro_number_0 rfl ?_
  refine g_iload_n d_Ro_number_1 rfl ?_
  refine g_isub d_Ro_number_2 ?_
  refine g_iconst d_Ro_number_3 ?_
  refine g_icmp_lt (tgt := 15) d_Ro_number_4 (by decide) (fun _ => ?_) (fun h1 => False.elim (by omega))
  refine g_iconst d_Ro_number_15 ?_
  refine g_iret d_Ro_number_16 rfl ?_ (by decide) (by decide)
  exact ⟨rfl, fun q  => rfl, rfl⟩
def k_VS_gather0 : MS := ("VaryStore", b_VS_gather, 3, (some .boolean), "gather", { frames := 5, cells := 0, slots := 0, locals := 107 }, [])
set_option maxRecDepth 100000 in
set_option maxHeartbeats 4000000 in
theorem c_VS_gather0 (Γ : GE) (b : Nat) (rq : Nat) (dr : Nat) (fp : Int) (tm : Int) (t : Nat) (li : Nat) (z : Int) (f : Nat → Int32) (w : Int) (x : Nat) {M : HM} {n : Nat} (hl : li < nLit) (ht : t + 6 ≤ b + 17 ∨ b + 33 ≤ t) (p0 : M (b) = some (.inr (0, [.ref (b + 1), .ref (b + 3), .ref (rq), .ref (dr), .int (iI (fp)), .int (iI (tm)), .ref (b + 17), .ref (b + 19), .ref (b + 21), .ref (b + 25), .ref (b + 29)]))) (p1 : M (b + 17) = some (.inr (2, [.ref (b + 18), .int (iI (z))]))) (p2 : M (b + 17 + 1) = some (.inl (Γ.2.2.1 0, 300, .inl (f)))) (p3 : M (b + 19) = some (.inr (2, [.ref (x), .int (iI (w))]))) (p4 : M (t) = some (.inr (4, [.ref (t + 1), .ref (t + 3), .ref (t + 4), .ref (t + 5), .int (iI (0))]))) : CT Γ k_VS_gather0 y_VS_gather [.ref (b), .ref (t), .ref (Γ.2.2.2.1 li)] M (n) (fun v M' n' => n = n' ∧ (∀ q, q ≠ b + 17 → q ≠ b + 18 → q ≠ b + 19 → M' q = M q) ∧ ∃ (zs1 : Int) (fs1 : Nat → Int32), v = some (.int (iI (0))) ∧ 0 ≤ zs1 ∧ zs1 ≤ 40 ∧ M' (b + 17) = some (.inr (2, [.ref (b + 18), .int (iI (zs1))])) ∧ M' (b + 18) = some (.inl (Γ.2.2.1 0, 300, .inl (fs1))) ∧ M' (b + 19) = some (.inr (2, [.ref (x), .int (iI (0))]))) := by
  refine CT.of (by decide) rfl rfl 0 rfl (Nat.le_of_ble_eq_true rfl) rfl ?_
  refine g_aload_n d_VS_gather_0 rfl ?_
  refine g_get fa_VS_40 d_VS_gather_1 p0 rfl ?_
  refine g_aload_n d_VS_gather_4 rfl ?_
  refine g_callV1 (ν := k_Ro_set) ⟨w_338, w_31, w_341, by decide, by decide, by decide +kernel⟩ w_339 w_340 (c_Ro_set Γ (b + 17) (li) (z) (f) (by first | omega | decide | (have h9 := lenLit_le li; omega)) p1 p2) d_VS_gather_5 p1 rfl rfl ⟨⟨by decide, by decide⟩, ⟨by decide, by decide⟩⟩ (Nat.le_of_ble_eq_true rfl) (fun v1 M1 n1 hQ1 hn1 hd1 => ?_)
  obtain ⟨rfl, hf1, zs1, fs1, rfl, hb1_zs1_0, hb1_zs1_1, hw1_0, hw1_1⟩ := hQ1
  refine g_aload_n d_VS_gather_8 rfl ?_
  refine g_aload_n d_VS_gather_9 rfl ?_
  refine g_get fa_VS_40 d_VS_gather_10 ((hf1 (b) (by omega) (by omega)).trans p0) rfl ?_
  refine g_aload_n d_VS_gather_13 rfl ?_
  refine g_get fa_VS_43 d_VS_gather_14 ((hf1 (b) (by omega) (by omega)).trans p0) rfl ?_
  refine g_callV2 (ν := k_Te_gather0) ⟨w_391, w_33, w_394, by decide, by decide, by decide +kernel⟩ w_392 w_393 (c_Te_gather0 Γ (t) (b + 17) (b + 19) (x) (w) (by omega) ((hf1 (t) (by omega) (by omega)).trans p4) ((hf1 ((b + 19)) (by omega) (by omega)).trans p3)) d_VS_gather_17 ((hf1 (t) (by omega) (by omega)).trans p4) rfl rfl ⟨⟨by decide, by decide⟩, ⟨by decide, by decide⟩⟩ (Nat.le_of_ble_eq_true rfl) (fun v2 M2 n2 hQ2 hn2 hd2 => ?_)
  obtain ⟨rfl, hf2, rfl, hw2_0⟩ := hQ2
  refine g_zret (ty := .boolean) (by first | rfl | exact nar_char (by omega)) d_VS_gather_20 rfl ?_ (by decide) (by decide)
  exact ⟨rfl, fun q e0 e1 e2 => ((hf2 q (by omega)).trans ((hf1 q (by omega) (by omega)).trans rfl)), zs1, fs1, rfl, hb1_zs1_0, hb1_zs1_1, ((hf2 (b + 17) (by omega)).trans hw1_0), ((hf2 (b + 18) (by omega)).trans hw1_1), hw2_0⟩
def k_VS_cutList0 : MS := ("VaryStore", b_VS_cutList, 5, (some .boolean), "cutList", { frames := 6, cells := 0, slots := 0, locals := 129 }, [])
set_option maxRecDepth 100000 in
set_option maxHeartbeats 4000000 in
theorem c_VS_cutList0 (Γ : GE) (b : Nat) (rq : Nat) (dr : Nat) (fp : Int) (tm : Int) (t : Nat) (li : Nat) (s : Nat) (z : Int) (f : Nat → Int32) (w : Int) (x : Nat) (cc : Int) (zz : Int) (y : Nat) (e : Nat) {M : HM} {n : Nat} (hl : li < nLit) (ht : t + 6 ≤ b + 17 ∨ b + 33 ≤ t) (hs : b + 21 ≤ s) (p0 : M (b) = some (.inr (0, [.ref (b + 1), .ref (b + 3), .ref (rq), .ref (dr), .int (iI (fp)), .int (iI (tm)), .ref (b + 17), .ref (b + 19), .ref (b + 21), .ref (b + 25), .ref (b + 29)]))) (p1 : M (b + 17) = some (.inr (2, [.ref (b + 18), .int (iI (z))]))) (p2 : M (b + 17 + 1) = some (.inl (Γ.2.2.1 0, 300, .inl (f)))) (p3 : M (b + 19) = some (.inr (2, [.ref (x), .int (iI (w))]))) (p4 : M (t) = some (.inr (4, [.ref (t + 1), .ref (t + 3), .ref (t + 4), .ref (t + 5), .int (iI (0))]))) (p5 : M (s) = some (.inr (1, [.ref (s + 1), .ref (e), .int (iI (cc))]))) (p6 : M (s + 1) = some (.inr (2, [.ref (y), .int (iI (zz))]))) : CT Γ k_VS_cutList0 y_VS_cutList [.ref (b), .ref (t), .ref (Γ.2.2.2.1 li), .ref (s)] M (n) (fun v M' n' => n = n' ∧ (∀ q, q ≠ b + 17 → q ≠ b + 18 → q ≠ b + 19 → q ≠ s + 1 → q ≠ s → M' q = M q) ∧ ∃ (zs1 : Int) (fs1 : Nat → Int32), v = some (.int (iI (0))) ∧ 0 ≤ zs1 ∧ zs1 ≤ 40 ∧ M' (b + 17) = some (.inr (2, [.ref (b + 18), .int (iI (zs1))])) ∧ M' (b + 18) = some (.inl (Γ.2.2.1 0, 300, .inl (fs1))) ∧ M' (b + 19) = some (.inr (2, [.ref (x), .int (iI (0))])) ∧ M' (s + 1) = some (.inr (2, [.ref (y), .int (iI (0))])) ∧ M' (s) = some (.inr (1, [.ref (s + 1), .ref (e), .int (iI (0))]))) := by
  refine CT.of (by decide) rfl rfl 1 rfl (Nat.le_of_ble_eq_true rfl) rfl ?_
  refine g_aload_n d_VS_cutList_0 rfl ?_
  refine g_aload_n d_VS_cutList_1 rfl ?_
  refine g_aload_n d_VS_cutList_2 rfl ?_
  refine g_callV2 (ν := k_VS_gather0) ⟨w_334, w_30, w_337, by decide, by decide, by decide +kernel⟩ w_336 w_5 (c_VS_gather0 Γ (b) (rq) (dr) (fp) (tm) (t) (li) (z) (f) (w) (x) (by first | omega | decide | (have h9 := lenLit_le li; omega)) (by first | omega | decide | (have h9 := lenLit_le li; omega)) p0 p1 p2 p3 p4) d_VS_cutList_3 p0 rfl rfl ⟨⟨by decide, by decide⟩, ⟨by decide, by decide⟩⟩ (Nat.le_of_ble_eq_true rfl) (fun v1 M1 n1 hQ1 hn1 hd1 => ?_)
  obtain ⟨rfl, hf1, zs1, fs1, rfl, hb1_zs1_0, hb1_zs1_1, hw1_0, hw1_1, hw1_2⟩ := hQ1
  refine g_istore d_VS_cutList_6 (by decide) rfl ?_
  refine g_aload_n d_VS_cutList_8 rfl ?_
  refine g_aload_n d_VS_cutList_9 rfl ?_
  refine g_get fa_VS_43 d_VS_cutList_10 ((hf1 (b) (by omega) (by omega) (by omega)).trans p0) rfl ?_
  refine g_callV1 (ν := k_It_cut0) ⟨w_414, w_34, w_417, by decide, by decide, by decide +kernel⟩ w_415 w_416 (c_It_cut0 Γ (s) (b + 19) (cc) (zz) (y) (e) (x) (by omega) (by omega) ((hf1 (s) (by omega) (by omega) (by omega)).trans p5) ((hf1 (s + 1) (by omega) (by omega) (by omega)).trans p6) hw1_2) d_VS_cutList_13 ((hf1 (s) (by omega) (by omega) (by omega)).trans p5) rfl rfl ⟨⟨by decide, by decide⟩, ⟨by decide, by decide⟩⟩ (Nat.le_of_ble_eq_true rfl) (fun v2 M2 n2 hQ2 hn2 hd2 => ?_)
  obtain ⟨rfl, hf2, rfl, hw2_0, hw2_1⟩ := hQ2
  refine g_iload d_VS_cutList_16 rfl ?_
  refine g_zret (ty := .boolean) (by first | rfl | exact nar_char (by omega)) d_VS_cutList_18 rfl ?_ (by decide) (by decide)
  exact ⟨rfl, fun q e0 e1 e2 e3 e4 => ((hf2 q (by omega) (by omega)).trans ((hf1 q (by omega) (by omega) (by omega)).trans rfl)), zs1, fs1, rfl, hb1_zs1_0, hb1_zs1_1, ((hf2 (b + 17) (by omega) (by omega)).trans hw1_0), ((hf2 (b + 18) (by omega) (by omega)).trans hw1_1), ((hf2 (b + 19) (by omega) (by omega)).trans hw1_2), hw2_0, hw2_1⟩
def k_VS_numberOf0 : MS := ("VaryStore", b_VS_numberOf, 2, (some .int), "numberOf", { frames := 6, cells := 0, slots := 0, locals := 129 }, [])
set_option maxRecDepth 100000 in
set_option maxHeartbeats 4000000 in
theorem c_VS_numberOf0 (Γ : GE) (b : Nat) (rq : Nat) (dr : Nat) (fp : Int) (tm : Int) (li : Nat) (z : Int) (f : Nat → Int32) (w : Int) (x : Nat) {M : HM} {n : Nat} (hl : li < nLit) (ht : dr + 6 ≤ b + 17 ∨ b + 33 ≤ dr) (p0 : M (b) = some (.inr (0, [.ref (b + 1), .ref (b + 3), .ref (rq), .ref (dr), .int (iI (fp)), .int (iI (tm)), .ref (b + 17), .ref (b + 19), .ref (b + 21), .ref (b + 25), .ref (b + 29)]))) (p1 : M (b + 17) = some (.inr (2, [.ref (b + 18), .int (iI (z))]))) (p2 : M (b + 17 + 1) = some (.inl (Γ.2.2.1 0, 300, .inl (f)))) (p3 : M (b + 19) = some (.inr (2, [.ref (x), .int (iI (w))]))) (p4 : M (dr) = some (.inr (4, [.ref (dr + 1), .ref (dr + 3), .ref (dr + 4), .ref (dr + 5), .int (iI (0))]))) : CT Γ k_VS_numberOf0 y_VS_numberOf [.ref (b), .ref (Γ.2.2.2.1 li)] M (n) (fun v M' n' => n = n' ∧ (∀ q, q ≠ b + 17 → q ≠ b + 18 → q ≠ b + 19 → M' q = M q) ∧ ∃ (zs1 : Int) (fs1 : Nat → Int32), v = some (.int (iI ((-1)))) ∧ 0 ≤ zs1 ∧ zs1 ≤ 40 ∧ M' (b + 17) = some (.inr (2, [.ref (b + 18), .int (iI (zs1))])) ∧ M' (b + 18) = some (.inl (Γ.2.2.1 0, 300, .inl (fs1))) ∧ M' (b + 19) = some (.inr (2, [.ref (x), .int (iI (0))]))) := by
  refine CT.of (by decide) rfl rfl 0 rfl (Nat.le_of_ble_eq_true rfl) rfl ?_
  refine g_aload_n d_VS_numberOf_0 rfl ?_
  refine g_aload_n d_VS_numberOf_1 rfl ?_
  refine g_get fa_VS_30 d_VS_numberOf_2 p0 rfl ?_
  refine g_aload_n d_VS_numberOf_5 rfl ?_
  refine g_callV2 (ν := k_VS_gather0) ⟨w_334, w_30, w_337, by decide, by decide, by decide +kernel⟩ w_336 w_5 (c_VS_gather0 Γ (b) (rq) (dr) (fp) (tm) (dr) (li) (z) (f) (w) (x) (by first | omega | decide | (have h9 := lenLit_le li; omega)) (by first | omega | decide | (have h9 := lenLit_le li; omega)) p0 p1 p2 p3 p4) d_VS_numberOf_6 p0 rfl rfl ⟨⟨by decide, by decide⟩, ⟨by decide, by decide⟩⟩ (Nat.le_of_ble_eq_true rfl) (fun v1 M1 n1 hQ1 hn1 hd1 => ?_)
  obtain ⟨rfl, hf1, zs1, fs1, rfl, hb1_zs1_0, hb1_zs1_1, hw1_0, hw1_1, hw1_2⟩ := hQ1
  refine g_pop d_VS_numberOf_9 rfl ?_
  refine g_aload_n d_VS_numberOf_10 rfl ?_
  refine g_get fa_VS_43 d_VS_numberOf_11 ((hf1 (b) (by omega) (by omega) (by omega)).trans p0) rfl ?_
  refine g_iconst d_VS_numberOf_14 ?_
  refine g_aload_n d_VS_numberOf_15 rfl ?_
  refine g_get fa_VS_43 d_VS_numberOf_16 ((hf1 (b) (by omega) (by omega) (by omega)).trans p0) rfl ?_
  refine g_get fa_VS_59 d_VS_numberOf_19 hw1_2 rfl ?_
  refine g_callV2 (ν := k_Ro_number0) ⟨w_616, w_31, w_484, by decide, by decide, by decide +kernel⟩ w_482 w_483 (c_Ro_number0 Γ (b + 19)  ) d_VS_numberOf_22 hw1_2 rfl rfl ⟨⟨by decide, by decide⟩, ⟨by decide, by decide⟩⟩ (Nat.le_of_ble_eq_true rfl) (fun v2 M2 n2 hQ2 hn2 hd2 => ?_)
  obtain ⟨rfl, hf2, rfl⟩ := hQ2
  refine g_iret d_VS_numberOf_25 rfl ?_ (by decide) (by decide)
  exact ⟨rfl, fun q e0 e1 e2 => ((hf2 q ).trans ((hf1 q (by omega) (by omega) (by omega)).trans rfl)), zs1, fs1, rfl, hb1_zs1_0, hb1_zs1_1, ((hf2 (b + 17) ).trans hw1_0), ((hf2 (b + 18) ).trans hw1_1), ((hf2 (b + 19) ).trans hw1_2)⟩
def k_Sh_at0 : MS := ("VaryStore$Shelf", b_Sh_at, 2, (some (.object "VaryStore$Thing")), "at", { frames := 0, cells := 0, slots := 0, locals := 0 }, [])
set_option maxRecDepth 100000 in
set_option maxHeartbeats 4000000 in
theorem c_Sh_at0 (Γ : GE) (s : Nat) (i : Int) (u : Int) {M : HM} {n : Nat} (i0 : -2147483648 ≤ i) (i1 : i < 2147483648) (p0 : M (s) = some (.inr (3, [.ref (s + 1), .int (iI (0)), .int (iI (u))]))) : CT Γ k_Sh_at0 y_Sh_at [.ref (s), .int (iI (i))] M (n) (fun v M' n' => n = n' ∧ (∀ q, M' q = M q) ∧ v = some (.null)) := by
  refine CT.of (by decide) rfl rfl 0 rfl (Nat.le_of_ble_eq_true rfl) rfl ?_
  refine g_iload_n d_Sh_at_0 rfl ?_
  refine g_if_lt (tgt := 21) d_Sh_at_1 (by decide) (fun h1 => ?_) (fun h1 => ?_)
  · skip
    refine g_null d_Sh_at_21 ?_
    refine g_aret (rt := (.object "VaryStore$Thing")) (by first | exact Or.inl ⟨_, rfl⟩ | exact Or.inr ⟨_, rfl⟩) (by first | exact Or.inl rfl | exact Or.inr ⟨_, rfl⟩) d_Sh_at_22 rfl ?_ (by decide) (by decide)
    exact ⟨rfl, fun q  => rfl, rfl⟩
  · skip
    refine g_iload_n d_Sh_at_4 rfl ?_
    refine g_aload_n d_Sh_at_5 rfl ?_
    refine g_get fa_Sh_17 d_Sh_at_6 p0 rfl ?_
    refine g_icmp_ge (tgt := 21) d_Sh_at_9 (by decide) (fun h2 => ?_) (fun h2 => False.elim (by omega))
    refine g_null d_Sh_at_21 ?_
    refine g_aret (rt := (.object "VaryStore$Thing")) (by first | exact Or.inl ⟨_, rfl⟩ | exact Or.inr ⟨_, rfl⟩) (by first | exact Or.inl rfl | exact Or.inr ⟨_, rfl⟩) d_Sh_at_22 rfl ?_ (by decide) (by decide)
    exact ⟨rfl, fun q  => rfl, rfl⟩
def k_VS_theOne0 : MS := ("VaryStore", b_VS_placeOfTheOne, 4, (some .int), "placeOfTheOne", { frames := 0, cells := 0, slots := 0, locals := 0 }, [])
set_option maxRecDepth 100000 in
set_option maxHeartbeats 4000000 in
theorem c_VS_theOne0 (Γ : GE) (b : Nat) (rq : Nat) (dr : Nat) (fp : Int) (tm : Int) (path : Int) (u : Int) {M : HM} {n : Nat}  (p0 : M (b) = some (.inr (0, [.ref (b + 1), .ref (b + 3), .ref (rq), .ref (dr), .int (iI (fp)), .int (iI (tm)), .ref (b + 17), .ref (b + 19), .ref (b + 21), .ref (b + 25), .ref (b + 29)]))) (p1 : M (b + 3) = some (.inr (3, [.ref (b + 4), .int (iI (0)), .int (iI (u))]))) : CT Γ k_VS_theOne0 y_VS_placeOfTheOne [.ref (b), .int (iI (path))] M (n) (fun v M' n' => n = n' ∧ (∀ q, M' q = M q) ∧ v = some (.int (iI ((-1))))) := by
  refine CT.of (by decide) rfl rfl 2 rfl (Nat.le_of_ble_eq_true rfl) rfl ?_
  refine g_aload_n d_VS_placeOfTheOne_0 rfl ?_
  refine g_get fa_VS_19 d_VS_placeOfTheOne_1 p0 rfl ?_
  refine g_get fa_VS_133 d_VS_placeOfTheOne_4 p1 rfl ?_
  refine g_iconst d_VS_placeOfTheOne_7 ?_
  refine g_isub d_VS_placeOfTheOne_8 ?_
  refine g_istore_n d_VS_placeOfTheOne_9 (by decide) rfl ?_
  refine g_iload_n d_VS_placeOfTheOne_10 rfl ?_
  refine g_if_lt (tgt := 51) d_VS_placeOfTheOne_11 (by decide) (fun _ => ?_) (fun h1 => False.elim (by omega))
  refine g_iconst d_VS_placeOfTheOne_51 ?_
  refine g_iret d_VS_placeOfTheOne_52 rfl ?_ (by decide) (by decide)
  exact ⟨rfl, fun q  => rfl, rfl⟩
def k_VS_same0 : MS := ("VaryStore", b_VS_placeOfSame, 4, (some .int), "placeOfSame", { frames := 0, cells := 0, slots := 0, locals := 0 }, [])
set_option maxRecDepth 100000 in
set_option maxHeartbeats 4000000 in
theorem c_VS_same0 (Γ : GE) (b : Nat) (rq : Nat) (dr : Nat) (fp : Int) (tm : Int) (g : Nat) (u : Int) {M : HM} {n : Nat}  (p0 : M (b) = some (.inr (0, [.ref (b + 1), .ref (b + 3), .ref (rq), .ref (dr), .int (iI (fp)), .int (iI (tm)), .ref (b + 17), .ref (b + 19), .ref (b + 21), .ref (b + 25), .ref (b + 29)]))) (p1 : M (b + 3) = some (.inr (3, [.ref (b + 4), .int (iI (0)), .int (iI (u))]))) : CT Γ k_VS_same0 y_VS_placeOfSame [.ref (b), .ref (g)] M (n) (fun v M' n' => n = n' ∧ (∀ q, M' q = M q) ∧ v = some (.int (iI ((-1))))) := by
  refine CT.of (by decide) rfl rfl 2 rfl (Nat.le_of_ble_eq_true rfl) rfl ?_
  refine g_iconst d_VS_placeOfSame_0 ?_
  refine g_istore_n d_VS_placeOfSame_1 (by decide) rfl ?_
  refine g_iload_n d_VS_placeOfSame_2 rfl ?_
  refine g_aload_n d_VS_placeOfSame_3 rfl ?_
  refine g_get fa_VS_19 d_VS_placeOfSame_4 p0 rfl ?_
  refine g_get fa_VS_133 d_VS_placeOfSame_7 p1 rfl ?_
  refine g_icmp_ge (tgt := 67) d_VS_placeOfSame_10 (by decide) (fun _ => ?_) (fun h1 => False.elim (by omega))
  refine g_iconst d_VS_placeOfSame_67 ?_
  refine g_iret d_VS_placeOfSame_68 rfl ?_ (by decide) (by decide)
  exact ⟨rfl, fun q  => rfl, rfl⟩
def k_VS_things0 : MS := ("VaryStore", b_VS_things, 1, (some .int), "things", { frames := 0, cells := 0, slots := 0, locals := 0 }, [])
set_option maxRecDepth 100000 in
set_option maxHeartbeats 4000000 in
theorem c_VS_things0 (Γ : GE) (b : Nat) (rq : Nat) (dr : Nat) (fp : Int) (tm : Int) (u : Int) {M : HM} {n : Nat}  (p0 : M (b) = some (.inr (0, [.ref (b + 1), .ref (b + 3), .ref (rq), .ref (dr), .int (iI (fp)), .int (iI (tm)), .ref (b + 17), .ref (b + 19), .ref (b + 21), .ref (b + 25), .ref (b + 29)]))) (p1 : M (b + 3) = some (.inr (3, [.ref (b + 4), .int (iI (0)), .int (iI (u))]))) : CT Γ k_VS_things0 y_VS_things [.ref (b)] M (n) (fun v M' n' => n = n' ∧ (∀ q, M' q = M q) ∧ v = some (.int (iI (0)))) := by
  refine CT.of (by decide) rfl rfl 0 rfl (Nat.le_of_ble_eq_true rfl) rfl ?_
  refine g_aload_n d_VS_things_0 rfl ?_
  refine g_get fa_VS_19 d_VS_things_1 p0 rfl ?_
  refine g_get fa_VS_133 d_VS_things_4 p1 rfl ?_
  refine g_iret d_VS_things_7 rfl ?_ (by decide) (by decide)
  exact ⟨rfl, fun q  => rfl, rfl⟩
def k_VS_fault : MS := ("VaryStore", b_VS_fault, 1, (some .int), "fault", { frames := 0, cells := 0, slots := 0, locals := 0 }, [])
set_option maxRecDepth 100000 in
set_option maxHeartbeats 4000000 in
theorem c_VS_fault (Γ : GE) (b : Nat) (rq : Nat) (dr : Nat) (fp : Int) (tm : Int) {M : HM} {n : Nat}  (p0 : M (b) = some (.inr (0, [.ref (b + 1), .ref (b + 3), .ref (rq), .ref (dr), .int (iI (fp)), .int (iI (tm)), .ref (b + 17), .ref (b + 19), .ref (b + 21), .ref (b + 25), .ref (b + 29)]))) : CT Γ k_VS_fault y_VS_fault [.ref (b)] M (n) (fun v M' n' => n = n' ∧ (∀ q, M' q = M q) ∧ v = some (.int (iI (fp)))) := by
  refine CT.of (by decide) rfl rfl 0 rfl (Nat.le_of_ble_eq_true rfl) rfl ?_
  refine g_aload_n d_VS_fault_0 rfl ?_
  refine g_get fa_VS_33 d_VS_fault_1 p0 rfl ?_
  refine g_iret d_VS_fault_4 rfl ?_ (by decide) (by decide)
  exact ⟨rfl, fun q  => rfl, rfl⟩
def k_VS_purge0 : MS := ("VaryStore", b_VS_purge, 5, (some .int), "purge", { frames := 0, cells := 0, slots := 0, locals := 0 }, [])
set_option maxRecDepth 100000 in
set_option maxHeartbeats 4000000 in
theorem c_VS_purge0 (Γ : GE) (b : Nat) (rq : Nat) (dr : Nat) (fp : Int) (tm : Int) (path : Int) (u : Int) {M : HM} {n : Nat}  (p0 : M (b) = some (.inr (0, [.ref (b + 1), .ref (b + 3), .ref (rq), .ref (dr), .int (iI (fp)), .int (iI (tm)), .ref (b + 17), .ref (b + 19), .ref (b + 21), .ref (b + 25), .ref (b + 29)]))) (p1 : M (b + 3) = some (.inr (3, [.ref (b + 4), .int (iI (0)), .int (iI (u))]))) : CT Γ k_VS_purge0 y_VS_purge [.ref (b), .int (iI (path))] M (n) (fun v M' n' => n = n' ∧ (∀ q, M' q = M q) ∧ v = some (.int (iI (0)))) := by
  refine CT.of (by decide) rfl rfl 3 rfl (Nat.le_of_ble_eq_true rfl) rfl ?_
  refine g_iconst d_VS_purge_0 ?_
  refine g_istore_n d_VS_purge_1 (by decide) rfl ?_
  refine g_aload_n d_VS_purge_2 rfl ?_
  refine g_get fa_VS_19 d_VS_purge_3 p0 rfl ?_
  refine g_get fa_VS_133 d_VS_purge_6 p1 rfl ?_
  refine g_iconst d_VS_purge_9 ?_
  refine g_isub d_VS_purge_10 ?_
  refine g_istore_n d_VS_purge_11 (by decide) rfl ?_
  refine g_iload_n d_VS_purge_12 rfl ?_
  refine g_if_lt (tgt := 57) d_VS_purge_13 (by decide) (fun _ => ?_) (fun h1 => False.elim (by omega))
  refine g_iload_n d_VS_purge_57 rfl ?_
  refine g_iret d_VS_purge_58 rfl ?_ (by decide) (by decide)
  exact ⟨rfl, fun q  => rfl, rfl⟩
def k_Sh_drop0 : MS := ("VaryStore$Shelf", b_Sh_drop, 2, none, "drop", { frames := 0, cells := 0, slots := 0, locals := 0 }, [])
set_option maxRecDepth 100000 in
set_option maxHeartbeats 4000000 in
theorem c_Sh_drop0 (Γ : GE) (s : Nat) {M : HM} {n : Nat}   : CT Γ k_Sh_drop0 y_Sh_drop [.ref (s), .int (iI ((-1)))] M (n) (fun v M' n' => n = n' ∧ (∀ q, M' q = M q) ∧ v = none) := by
  refine CT.of (by decide) rfl rfl 0 rfl (Nat.le_of_ble_eq_true rfl) rfl ?_
  refine g_iload_n d_Sh_drop_0 rfl ?_
  refine g_if_lt (tgt := 27) d_Sh_drop_1 (by decide) (fun _ => ?_) (fun h1 => False.elim (by omega))
  refine g_vret d_Sh_drop_27 rfl ?_ (by decide) (by decide)
  exact ⟨rfl, fun q  => rfl, rfl⟩
def k_Te_read0 : MS := ("VaryStore$Text", b_Te_read, 4, (some .int), "read", { frames := 2, cells := 0, slots := 0, locals := 61 }, [])
set_option maxRecDepth 100000 in
set_option maxHeartbeats 4000000 in
theorem c_Te_read0 (Γ : GE) (t : Nat) (c : Nat) (f : Nat → Int32) (g : Nat → Int32) (z : Int) (ln : Int) {M : HM} {n : Nat} (htc : t + 6 ≤ c ∨ c + 2 ≤ t) (p0 : M (t) = some (.inr (4, [.ref (t + 1), .ref (t + 3), .ref (t + 4), .ref (t + 5), .int (iI (ln))]))) (p1 : M (t + 1) = some (.inr (2, [.ref (t + 2), .int (iI (z))]))) (p2 : M (t + 1 + 1) = some (.inl (Γ.2.2.1 0, 300, .inl (f)))) (p3 : M (c) = some (.inr (2, [.ref (c + 1), .int (iI (0))]))) (p4 : M (c + 1) = some (.inl (Γ.2.2.1 0, 300, .inl (g)))) : CT Γ k_Te_read0 y_Te_read [.ref (t), .ref (c)] M (n) (fun v M' n' => n = n' ∧ (∀ q, q ≠ t + 2 → q ≠ t + 1 → q ≠ t → M' q = M q) ∧ v = some (.int (iI ((-1)))) ∧ M' (t + 2) = some (.inl (Γ.2.2.1 0, 300, .inl (f))) ∧ M' (t + 1) = some (.inr (2, [.ref (t + 2), .int (iI (0))])) ∧ M' (t) = some (.inr (4, [.ref (t + 1), .ref (t + 3), .ref (t + 4), .ref (t + 5), .int (iI (0))]))) := by
  refine CT.of (by decide) rfl rfl 2 rfl (Nat.le_of_ble_eq_true rfl) rfl ?_
  refine g_aload_n d_Te_read_0 rfl ?_
  refine g_get fa_Te_12 d_Te_read_1 p0 rfl ?_
  refine g_aload_n d_Te_read_4 rfl ?_
  refine g_callV1 (ν := k_Ro_copy0) ⟨w_226, w_31, w_229, by decide, by decide, by decide +kernel⟩ w_227 w_228 (c_Ro_copy0 Γ (t + 1) (c) (z) (f) (g) (by omega) p1 p2 p3 p4) d_Te_read_5 p1 rfl rfl ⟨⟨by decide, by decide⟩, ⟨by decide, by decide⟩⟩ (Nat.le_of_ble_eq_true rfl) (fun v1 M1 n1 hQ1 hn1 hd1 => ?_)
  obtain ⟨rfl, hf1, rfl, hw1_0, hw1_1⟩ := hQ1
  refine g_aload_n d_Te_read_8 rfl ?_
  refine g_iconst d_Te_read_9 ?_
  refine g_put fa_Te_28 d_Te_read_10 ((hf1 (t) (by omega) (by omega)).trans p0) (Nat.le_of_ble_eq_true rfl) rfl rfl rfl ?_
  refine g_iconst d_Te_read_13 ?_
  refine g_istore_n d_Te_read_14 (by decide) rfl ?_
  refine g_iconst d_Te_read_15 ?_
  refine g_istore_n d_Te_read_16 (by decide) rfl ?_
  refine g_iload_n d_Te_read_17 rfl ?_
  refine g_aload_n d_Te_read_18 rfl ?_
  refine g_get fa_Te_12 d_Te_read_19 (hu_same _ _ _) rfl ?_
  refine g_get fa_Te_42 d_Te_read_22 ((hu_ne (by omega)).trans hw1_1) rfl ?_
  refine g_icmp_ge (tgt := 62) d_Te_read_25 (by decide) (fun _ => ?_) (fun h2 => False.elim (by omega))
  refine g_iload_n d_Te_read_62 rfl ?_
  refine g_aload_n d_Te_read_63 rfl ?_
  refine g_get fa_Te_12 d_Te_read_64 (hu_same _ _ _) rfl ?_
  refine g_get fa_Te_42 d_Te_read_67 ((hu_ne (by omega)).trans hw1_1) rfl ?_
  refine g_icmp_ge (tgt := 77) d_Te_read_70 (by decide) (fun _ => ?_) (fun h3 => False.elim (by omega))
  refine g_iconst d_Te_read_77 ?_
  refine g_iret d_Te_read_78 rfl ?_ (by decide) (by decide)
  exact ⟨rfl, fun q e0 e1 e2 => ((hu_ne (by omega)).trans ((hf1 q (by omega) (by omega)).trans rfl)), rfl, ((hu_ne (by omega)).trans hw1_0), ((hu_ne (by omega)).trans hw1_1), (hu_same _ _ _)⟩
def k_VS_readTape : MS := ("VaryStore", b_VS_readTape, 2, none, "readTape", { frames := 6, cells := 1, slots := 6, locals := 84 }, [])
set_option maxRecDepth 100000 in
set_option maxHeartbeats 4000000 in
theorem c_VS_readTape (Γ : GE) (b : Nat) (rq : Nat) (dr : Nat) (fp : Int) (tm : Int) (path : Int) (f1 : Nat → Int32) (f2 : Nat → Int32) (ln : Int) (zd : Int) {M : HM} {n : Nat} (pa : -2147483648 ≤ path) (pb : path < 2147483648) (hdr : b + 5 ≤ dr) (hdr2 : dr + 6 ≤ b + 17) (p0 : M (b) = some (.inr (0, [.ref (b + 1), .ref (b + 3), .ref (rq), .ref (dr), .int (iI (fp)), .int (iI (tm)), .ref (b + 17), .ref (b + 19), .ref (b + 21), .ref (b + 25), .ref (b + 29)]))) (p1 : M (b + 1) = some (.inr (2, [.ref (b + 2), .int (iI (0))]))) (p2 : M (b + 1 + 1) = some (.inl (Γ.2.2.1 0, 300, .inl (f1)))) (p3 : M (dr) = some (.inr (4, [.ref (dr + 1), .ref (dr + 3), .ref (dr + 4), .ref (dr + 5), .int (iI (ln))]))) (p4 : M (dr + 1) = some (.inr (2, [.ref (dr + 2), .int (iI (zd))]))) (p5 : M (dr + 1 + 1) = some (.inl (Γ.2.2.1 0, 300, .inl (f2)))) : CX Γ k_VS_readTape y_VS_readTape [.ref (b), .int (iI (path))] M (n) (fun v M' n' => n = n' ∧ (∀ q, q ≠ dr + 2 → q ≠ dr + 1 → q ≠ dr → q ≠ b → q ≠ b + 1 → M' q = M q) ∧ v = none ∧ M' (dr + 2) = some (.inl (Γ.2.2.1 0, 300, .inl (f2))) ∧ M' (dr + 1) = some (.inr (2, [.ref (dr + 2), .int (iI (0))])) ∧ M' (dr) = some (.inr (4, [.ref (dr + 1), .ref (dr + 3), .ref (dr + 4), .ref (dr + 5), .int (iI (0))])) ∧ M' (b) = some (.inr (0, [.ref (b + 1), .ref (b + 3), .ref (rq), .ref (dr), .int (iI ((-1))), .int (iI (tm)), .ref (b + 17), .ref (b + 19), .ref (b + 21), .ref (b + 25), .ref (b + 29)])) ∧ M' (b + 1) = some (.inr (2, [.ref (b + 2), .int (iI (0))])) ∧ (0 ≤ path ∧ path < 16)) (fun C M' n' => C = "java/lang/IllegalArgumentException" ∧ n ≤ n' ∧ (∀ q, q ≠ dr + 2 → q ≠ dr + 1 → q ≠ dr → q ≠ b → q ≠ b + 1 → M' q = M q) ∧ (¬ (0 ≤ path ∧ path < 16))) := by
  refine CX.of (by decide) rfl rfl 0 rfl (Nat.le_of_ble_eq_true rfl) rfl ?_
  refine g_aload_n d_VS_readTape_0 rfl ?_
  refine g_aload_n d_VS_readTape_1 rfl ?_
  refine g_get fa_VS_30 d_VS_readTape_2 p0 rfl ?_
  refine g_aload_n d_VS_readTape_5 rfl ?_
  refine g_get fa_VS_12 d_VS_readTape_6 p0 rfl ?_
  refine g_callV1 (ν := k_Te_read0) ⟨w_222, w_33, w_225, by decide, by decide, by decide +kernel⟩ w_223 w_224 (c_Te_read0 Γ (dr) (b + 1) (f2) (f1) (zd) (ln) (by omega) p3 p4 p5 p1 p2) d_VS_readTape_9 p3 rfl rfl ⟨⟨by decide, by decide⟩, ⟨by decide, by decide⟩⟩ (Nat.le_of_ble_eq_true rfl) (fun v1 M1 n1 hQ1 hn1 hd1 => ?_)
  obtain ⟨rfl, hf1, rfl, hw1_0, hw1_1, hw1_2⟩ := hQ1
  refine g_put fa_VS_33 d_VS_readTape_12 ((hf1 (b) (by omega) (by omega) (by omega)).trans p0) (Nat.le_of_ble_eq_true rfl) rfl rfl rfl ?_
  refine g_aload_n d_VS_readTape_15 rfl ?_
  refine g_get fa_VS_12 d_VS_readTape_16 (hu_same _ _ _) rfl ?_
  refine g_callV0 (ν := k_Ro_clear) ⟨w_257, w_31, w_260, by decide, by decide, by decide +kernel⟩ w_258 w_259 (c_Ro_clear Γ (b + 1) (b + 2) (0)  ((hu_ne (by omega)).trans ((hf1 ((b + 1)) (by omega) (by omega) (by omega)).trans p1))) d_VS_readTape_19 ((hu_ne (by omega)).trans ((hf1 (b + 1) (by omega) (by omega) (by omega)).trans p1)) rfl rfl ⟨⟨by decide, by decide⟩, ⟨by decide, by decide⟩⟩ (Nat.le_of_ble_eq_true rfl) (fun v2 M2 n2 hQ2 hn2 hd2 => ?_)
  obtain ⟨rfl, hf2, rfl, hw2_0⟩ := hQ2
  refine g_aload_n d_VS_readTape_22 rfl ?_
  refine g_get fa_VS_33 d_VS_readTape_23 ((hf2 (b) (by omega)).trans (hu_same _ _ _)) rfl ?_
  refine g_iconst d_VS_readTape_26 ?_
  refine g_icmp_eq (tgt := 40) d_VS_readTape_27 (by decide) (fun _ => ?_) (fun h3 => False.elim (by omega))
  refine g_iload_n d_VS_readTape_40 rfl ?_
  refine g_if_lt (tgt := 50) d_VS_readTape_41 (by decide) (fun h4 => ?_) (fun h4 => ?_)
  · skip
    refine g_throw (lit := 7) (text := "there is no such path") (names := ["java/lang/RuntimeException", "java/lang/Exception"]) w_261 w_42 (by decide +kernel) (by decide +kernel) (by decide) at_VS_163_167.1 at_VS_163_167.2 d_VS_readTape_50 d_VS_readTape_53 d_VS_readTape_54 d_VS_readTape_56 d_VS_readTape_59 rfl (by decide) (by decide) (by decide) (by decide) (fun n9 hn9 => ?_)
    exact ⟨rfl, by omega, fun q e0 e1 e2 e3 e4 => ((hf2 q (by omega)).trans ((hu_ne (by omega)).trans ((hf1 q (by omega) (by omega) (by omega)).trans rfl))), by omega⟩
  · skip
    refine g_iload_n d_VS_readTape_44 rfl ?_
    refine g_bipush d_VS_readTape_45 (by decide) ?_
    refine g_icmp_lt (tgt := 60) d_VS_readTape_47 (by decide) (fun h5 => ?_) (fun h5 => ?_)
    · skip
      refine g_x ?_
      refine g_vret d_VS_readTape_60 rfl ?_ (by decide) (by decide)
      exact ⟨rfl, fun q e0 e1 e2 e3 e4 => ((hf2 q (by omega)).trans ((hu_ne (by omega)).trans ((hf1 q (by omega) (by omega) (by omega)).trans rfl))), rfl, ((hf2 (dr + 2) (by omega)).trans ((hu_ne (by omega)).trans hw1_0)), ((hf2 (dr + 1) (by omega)).trans ((hu_ne (by omega)).trans hw1_1)), ((hf2 (dr) (by omega)).trans ((hu_ne (by omega)).trans hw1_2)), ((hf2 (b) (by omega)).trans (hu_same _ _ _)), hw2_0, by omega⟩
    · skip
      refine g_throw (lit := 7) (text := "there is no such path") (names := ["java/lang/RuntimeException", "java/lang/Exception"]) w_261 w_42 (by decide +kernel) (by decide +kernel) (by decide) at_VS_163_167.1 at_VS_163_167.2 d_VS_readTape_50 d_VS_readTape_53 d_VS_readTape_54 d_VS_readTape_56 d_VS_readTape_59 rfl (by decide) (by decide) (by decide) (by decide) (fun n9 hn9 => ?_)
      exact ⟨rfl, by omega, fun q e0 e1 e2 e3 e4 => ((hf2 q (by omega)).trans ((hu_ne (by omega)).trans ((hf1 q (by omega) (by omega) (by omega)).trans rfl))), by omega⟩
def k_VS_ask : MS := ("VaryStore", b_VS_ask, 5, (some .int), "ask", { frames := 7, cells := 1, slots := 6, locals := 153 }, [])
set_option maxRecDepth 100000 in
set_option maxHeartbeats 4000000 in
theorem c_VS_ask (Γ : GE) (b : Nat) (rq : Nat) (dr : Nat) (fp : Int) (tm : Int) (path : Int) (f1 : Nat → Int32) (f2 : Nat → Int32) (ln : Int) (zd : Int) (z : Int) (f3 : Nat → Int32) (w : Int) (x : Nat) (cc : Int) (zz : Int) (y : Nat) (e : Nat) (u : Int) {M : HM} {n : Nat} (pa : -2147483648 ≤ path) (pb : path < 2147483648) (hdr : b + 5 ≤ dr) (hdr2 : dr + 6 ≤ b + 17) (p0 : M (b) = some (.inr (0, [.ref (b + 1), .ref (b + 3), .ref (rq), .ref (dr), .int (iI (fp)), .int (iI (tm)), .ref (b + 17), .ref (b + 19), .ref (b + 21), .ref (b + 25), .ref (b + 29)]))) (p1 : M (b + 1) = some (.inr (2, [.ref (b + 2), .int (iI (0))]))) (p2 : M (b + 1 + 1) = some (.inl (Γ.2.2.1 0, 300, .inl (f1)))) (p3 : M (dr) = some (.inr (4, [.ref (dr + 1), .ref (dr + 3), .ref (dr + 4), .ref (dr + 5), .int (iI (ln))]))) (p4 : M (dr + 1) = some (.inr (2, [.ref (dr + 2), .int (iI (zd))]))) (p5 : M (dr + 1 + 1) = some (.inl (Γ.2.2.1 0, 300, .inl (f2)))) (p6 : M (b + 17) = some (.inr (2, [.ref (b + 18), .int (iI (z))]))) (p7 : M (b + 17 + 1) = some (.inl (Γ.2.2.1 0, 300, .inl (f3)))) (p8 : M (b + 19) = some (.inr (2, [.ref (x), .int (iI (w))]))) (p9 : M (b + 21) = some (.inr (1, [.ref (b + 22), .ref (e), .int (iI (cc))]))) (p10 : M (b + 22) = some (.inr (2, [.ref (y), .int (iI (zz))]))) (p11 : M (b + 3) = some (.inr (3, [.ref (b + 4), .int (iI (0)), .int (iI (u))]))) : CX Γ k_VS_ask y_VS_ask [.ref (b), .int (iI (path))] M (n) (fun v M' n' => n = n' ∧ (∀ q, q ≠ dr + 2 → q ≠ dr + 1 → q ≠ dr → q ≠ b → q ≠ b + 1 → q ≠ b + 17 → q ≠ b + 18 → q ≠ b + 19 → q ≠ b + 22 → q ≠ b + 21 → M' q = M q) ∧ ∃ (zs2 : Int) (fs2 : Nat → Int32), v = some (.int (iI (0))) ∧ 0 ≤ zs2 ∧ zs2 ≤ 40 ∧ M' (dr + 2) = some (.inl (Γ.2.2.1 0, 300, .inl (f2))) ∧ M' (dr + 1) = some (.inr (2, [.ref (dr + 2), .int (iI (0))])) ∧ M' (dr) = some (.inr (4, [.ref (dr + 1), .ref (dr + 3), .ref (dr + 4), .ref (dr + 5), .int (iI (0))])) ∧ M' (b) = some (.inr (0, [.ref (b + 1), .ref (b + 3), .ref (dr), .ref (rq), .int (iI ((-1))), .int (iI (tm)), .ref (b + 17), .ref (b + 19), .ref (b + 21), .ref (b + 25), .ref (b + 29)])) ∧ M' (b + 1) = some (.inr (2, [.ref (b + 2), .int (iI (0))])) ∧ M' (b + 17) = some (.inr (2, [.ref (b + 18), .int (iI (zs2))])) ∧ M' (b + 18) = some (.inl (Γ.2.2.1 0, 300, .inl (fs2))) ∧ M' (b + 19) = some (.inr (2, [.ref (x), .int (iI (0))])) ∧ M' (b + 22) = some (.inr (2, [.ref (y), .int (iI (0))])) ∧ M' (b + 21) = some (.inr (1, [.ref (b + 22), .ref (e), .int (iI (0))])) ∧ (0 ≤ path ∧ path < 16)) (fun C M' n' => C = "java/lang/IllegalArgumentException" ∧ n ≤ n' ∧ (∀ q, q ≠ dr + 2 → q ≠ dr + 1 → q ≠ dr → q ≠ b → q ≠ b + 1 → M' q = M q) ∧ (¬ (0 ≤ path ∧ path < 16))) := by
  refine CX.of (by decide) rfl rfl 3 rfl (Nat.le_of_ble_eq_true rfl) rfl ?_
  refine g_aload_n d_VS_ask_0 rfl ?_
  refine g_iload_n d_VS_ask_1 rfl ?_
  refine g_callVX1 (ν := k_VS_readTape) ⟨w_218, w_30, w_221, by decide, by decide, by decide +kernel⟩ w_220 w_1 (c_VS_readTape Γ (b) (rq) (dr) (fp) (tm) (path) (f1) (f2) (ln) (zd) (by omega) (by omega) (by omega) (by omega) p0 p1 p2 p3 p4 p5) d_VS_ask_2 p0 rfl rfl ⟨⟨by decide, by decide⟩, ⟨by decide, by decide⟩⟩ (Nat.le_of_ble_eq_true rfl) rfl (fun C9 M9 n9 h9 _ _ => h9) (fun v1 M1 n1 hQ1 hn1 hd1 => ?_)
  obtain ⟨rfl, hf1, rfl, hw1_0, hw1_1, hw1_2, hw1_3, hw1_4, hc1⟩ := hQ1
  refine g_aload_n d_VS_ask_5 rfl ?_
  refine g_get fa_VS_26 d_VS_ask_6 hw1_3 rfl ?_
  refine g_astore_n d_VS_ask_9 (by decide) rfl ?_
  refine g_aload_n d_VS_ask_10 rfl ?_
  refine g_aload_n d_VS_ask_11 rfl ?_
  refine g_get fa_VS_30 d_VS_ask_12 hw1_3 rfl ?_
  refine g_put fa_VS_26 d_VS_ask_15 hw1_3 (Nat.le_of_ble_eq_true rfl) rfl rfl rfl ?_
  refine g_aload_n d_VS_ask_18 rfl ?_
  refine g_aload_n d_VS_ask_19 rfl ?_
  refine g_put fa_VS_30 d_VS_ask_20 (hu_same _ _ _) (Nat.le_of_ble_eq_true rfl) rfl rfl rfl ?_
  refine g_aload_n d_VS_ask_23 rfl ?_
  refine g_aload_n d_VS_ask_24 rfl ?_
  refine g_get fa_VS_26 d_VS_ask_25 (hu_same _ _ _) rfl ?_
  refine g_ldcS (text := "cache-control") (lit := 0) (by decide) d_VS_ask_28 ?_
  refine g_aload_n d_VS_ask_30 rfl ?_
  refine g_get fa_VS_49 d_VS_ask_31 (hu_same _ _ _) rfl ?_
  refine g_callV3 (ν := k_VS_cutList0) ⟨w_330, w_30, w_333, by decide, by decide, by decide +kernel⟩ w_332 w_4 (c_VS_cutList0 Γ (b) (dr) (rq) ((-1)) (tm) (dr) (0) (b + 21) (z) (f3) (w) (x) (cc) (zz) (y) (e) (by first | omega | decide | (have h9 := lenLit_le 0; omega)) (by first | omega | decide | (have h9 := lenLit_le 0; omega)) (by first | omega | decide | (have h9 := lenLit_le 0; omega)) (hu_same _ _ _) ((hu_ne (by omega)).trans ((hu_ne (by omega)).trans ((hf1 (b + 17) (by omega) (by omega) (by omega) (by omega) (by omega)).trans p6))) ((hu_ne (by omega)).trans ((hu_ne (by omega)).trans ((hf1 (b + 17 + 1) (by omega) (by omega) (by omega) (by omega) (by omega)).trans p7))) ((hu_ne (by omega)).trans ((hu_ne (by omega)).trans ((hf1 (b + 19) (by omega) (by omega) (by omega) (by omega) (by omega)).trans p8))) ((hu_ne (by omega)).trans ((hu_ne (by omega)).trans hw1_2)) ((hu_ne (by omega)).trans ((hu_ne (by omega)).trans ((hf1 ((b + 21)) (by omega) (by omega) (by omega) (by omega) (by omega)).trans p9))) ((hu_ne (by omega)).trans ((hu_ne (by omega)).trans ((hf1 ((b + 21) + 1) (by omega) (by omega) (by omega) (by omega) (by omega)).trans p10)))) d_VS_ask_34 (hu_same _ _ _) rfl rfl ⟨⟨by decide, by decide⟩, ⟨by decide, by decide⟩⟩ (Nat.le_of_ble_eq_true rfl) (fun v2 M2 n2 hQ2 hn2 hd2 => ?_)
  obtain ⟨rfl, hf2, zs2, fs2, rfl, hb2_zs2_0, hb2_zs2_1, hw2_0, hw2_1, hw2_2, hw2_3, hw2_4⟩ := hQ2
  refine g_pop d_VS_ask_37 rfl ?_
  refine g_aload_n d_VS_ask_38 rfl ?_
  refine g_get fa_VS_19 d_VS_ask_39 ((hf2 (b) (by omega) (by omega) (by omega) (by omega) (by omega)).trans (hu_same _ _ _)) rfl ?_
  refine g_aload_n d_VS_ask_42 rfl ?_
  refine g_iload_n d_VS_ask_43 rfl ?_
  refine g_callV1 (ν := k_VS_theOne0) ⟨w_428, w_30, w_431, by decide, by decide, by decide +kernel⟩ w_430 w_7 (c_VS_theOne0 Γ (b) (dr) (rq) ((-1)) (tm) (path) (u)  ((hf2 (b) (by omega) (by omega) (by omega) (by omega) (by omega)).trans (hu_same _ _ _)) ((hf2 (b + 3) (by omega) (by omega) (by omega) (by omega) (by omega)).trans ((hu_ne (by omega)).trans ((hu_ne (by omega)).trans ((hf1 (b + 3) (by omega) (by omega) (by omega) (by omega) (by omega)).trans p11))))) d_VS_ask_44 ((hf2 (b) (by omega) (by omega) (by omega) (by omega) (by omega)).trans (hu_same _ _ _)) rfl rfl ⟨⟨by decide, by decide⟩, ⟨by decide, by decide⟩⟩ (Nat.le_of_ble_eq_true rfl) (fun v3 M3 n3 hQ3 hn3 hd3 => ?_)
  obtain ⟨rfl, hf3, rfl⟩ := hQ3
  refine g_callV1 (ν := k_Sh_at0) ⟨w_194, w_32, w_197, by decide, by decide, by decide +kernel⟩ w_195 w_196 (c_Sh_at0 Γ (b + 3) ((-1)) (u) (by omega) (by omega) ((hf3 ((b + 3)) ).trans ((hf2 ((b + 3)) (by omega) (by omega) (by omega) (by omega) (by omega)).trans ((hu_ne (by omega)).trans ((hu_ne (by omega)).trans ((hf1 ((b + 3)) (by omega) (by omega) (by omega) (by omega) (by omega)).trans p11)))))) d_VS_ask_47 ((hf3 (b + 3) ).trans ((hf2 (b + 3) (by omega) (by omega) (by omega) (by omega) (by omega)).trans ((hu_ne (by omega)).trans ((hu_ne (by omega)).trans ((hf1 (b + 3) (by omega) (by omega) (by omega) (by omega) (by omega)).trans p11))))) rfl rfl ⟨⟨by decide, by decide⟩, ⟨by decide, by decide⟩⟩ (Nat.le_of_ble_eq_true rfl) (fun v4 M4 n4 hQ4 hn4 hd4 => ?_)
  obtain ⟨rfl, hf4, rfl⟩ := hQ4
  refine g_astore_nN d_VS_ask_50 (by decide) rfl ?_
  refine g_aload_nN d_VS_ask_51 rfl ?_
  refine g_ifnonnullN d_VS_ask_52 ?_
  refine g_iconst d_VS_ask_55 ?_
  refine g_goto (tgt := 64) d_VS_ask_56 (by decide) ?_
  refine g_istore d_VS_ask_64 (by decide) rfl ?_
  refine g_iload d_VS_ask_66 rfl ?_
  refine g_iconst d_VS_ask_68 ?_
  refine g_icmp_eq (tgt := 78) d_VS_ask_69 (by decide) (fun h5 => False.elim (by omega)) (fun _ => ?_)
  refine g_iload d_VS_ask_72 rfl ?_
  refine g_iconst d_VS_ask_74 ?_
  refine g_icmp_ne (tgt := 89) d_VS_ask_75 (by decide) (fun _ => ?_) (fun h6 => False.elim (by omega))
  refine g_aload_n d_VS_ask_89 rfl ?_
  refine g_get fa_VS_49 d_VS_ask_90 ((hf4 (b) ).trans ((hf3 (b) ).trans ((hf2 (b) (by omega) (by omega) (by omega) (by omega) (by omega)).trans (hu_same _ _ _)))) rfl ?_
  refine g_ldcS (text := "only-if-cached") (lit := 1) (by decide) d_VS_ask_93 ?_
  refine g_callV1 (ν := k_It_has0) ⟨w_486, w_34, w_489, by decide, by decide, by decide +kernel⟩ w_487 w_488 (c_It_has0 Γ (b + 21) (1) (b + 22) (e)  ((hf4 ((b + 21)) ).trans ((hf3 ((b + 21)) ).trans hw2_4))) d_VS_ask_95 ((hf4 (b + 21) ).trans ((hf3 (b + 21) ).trans hw2_4)) rfl rfl ⟨⟨by decide, by decide⟩, ⟨by decide, by decide⟩⟩ (Nat.le_of_ble_eq_true rfl) (fun v7 M7 n7 hQ7 hn7 hd7 => ?_)
  obtain ⟨rfl, hf7, rfl⟩ := hQ7
  refine g_if_eq (tgt := 105) d_VS_ask_98 (by decide) (fun _ => ?_) (fun h8 => False.elim (by omega))
  refine g_iload d_VS_ask_105 rfl ?_
  refine g_x ?_
  refine g_iret d_VS_ask_107 rfl ?_ (by decide) (by decide)
  exact ⟨rfl, fun q e0 e1 e2 e3 e4 e5 e6 e7 e8 e9 => ((hf7 q ).trans ((hf4 q ).trans ((hf3 q ).trans ((hf2 q (by omega) (by omega) (by omega) (by omega) (by omega)).trans ((hu_ne (by omega)).trans ((hu_ne (by omega)).trans ((hf1 q (by omega) (by omega) (by omega) (by omega) (by omega)).trans rfl))))))), zs2, fs2, rfl, hb2_zs2_0, hb2_zs2_1, ((hf7 (dr + 2) ).trans ((hf4 (dr + 2) ).trans ((hf3 (dr + 2) ).trans ((hf2 (dr + 2) (by omega) (by omega) (by omega) (by omega) (by omega)).trans ((hu_ne (by omega)).trans ((hu_ne (by omega)).trans hw1_0)))))), ((hf7 (dr + 1) ).trans ((hf4 (dr + 1) ).trans ((hf3 (dr + 1) ).trans ((hf2 (dr + 1) (by omega) (by omega) (by omega) (by omega) (by omega)).trans ((hu_ne (by omega)).trans ((hu_ne (by omega)).trans hw1_1)))))), ((hf7 (dr) ).trans ((hf4 (dr) ).trans ((hf3 (dr) ).trans ((hf2 (dr) (by omega) (by omega) (by omega) (by omega) (by omega)).trans ((hu_ne (by omega)).trans ((hu_ne (by omega)).trans hw1_2)))))), ((hf7 (b) ).trans ((hf4 (b) ).trans ((hf3 (b) ).trans ((hf2 (b) (by omega) (by omega) (by omega) (by omega) (by omega)).trans (hu_same _ _ _))))), ((hf7 (b + 1) ).trans ((hf4 (b + 1) ).trans ((hf3 (b + 1) ).trans ((hf2 (b + 1) (by omega) (by omega) (by omega) (by omega) (by omega)).trans ((hu_ne (by omega)).trans ((hu_ne (by omega)).trans hw1_4)))))), ((hf7 (b + 17) ).trans ((hf4 (b + 17) ).trans ((hf3 (b + 17) ).trans hw2_0))), ((hf7 (b + 18) ).trans ((hf4 (b + 18) ).trans ((hf3 (b + 18) ).trans hw2_1))), ((hf7 (b + 19) ).trans ((hf4 (b + 19) ).trans ((hf3 (b + 19) ).trans hw2_2))), ((hf7 (b + 22) ).trans ((hf4 (b + 22) ).trans ((hf3 (b + 22) ).trans hw2_3))), ((hf7 (b + 21) ).trans ((hf4 (b + 21) ).trans ((hf3 (b + 21) ).trans hw2_4))), by omega⟩
def k_VS_again : MS := ("VaryStore", b_VS_again, 4, (some .boolean), "again", { frames := 7, cells := 1, slots := 6, locals := 105 }, [])
set_option maxRecDepth 100000 in
set_option maxHeartbeats 4000000 in
theorem c_VS_again (Γ : GE) (b : Nat) (rq : Nat) (dr : Nat) (fp : Int) (tm : Int) (path : Int) (f1 : Nat → Int32) (f2 : Nat → Int32) (ln : Int) (zd : Int) (u : Int) {M : HM} {n : Nat} (pa : -2147483648 ≤ path) (pb : path < 2147483648) (hdr : b + 5 ≤ dr) (hdr2 : dr + 6 ≤ b + 17) (p0 : M (b) = some (.inr (0, [.ref (b + 1), .ref (b + 3), .ref (rq), .ref (dr), .int (iI (fp)), .int (iI (tm)), .ref (b + 17), .ref (b + 19), .ref (b + 21), .ref (b + 25), .ref (b + 29)]))) (p1 : M (b + 1) = some (.inr (2, [.ref (b + 2), .int (iI (0))]))) (p2 : M (b + 1 + 1) = some (.inl (Γ.2.2.1 0, 300, .inl (f1)))) (p3 : M (dr) = some (.inr (4, [.ref (dr + 1), .ref (dr + 3), .ref (dr + 4), .ref (dr + 5), .int (iI (ln))]))) (p4 : M (dr + 1) = some (.inr (2, [.ref (dr + 2), .int (iI (zd))]))) (p5 : M (dr + 1 + 1) = some (.inl (Γ.2.2.1 0, 300, .inl (f2)))) (p6 : M (b + 3) = some (.inr (3, [.ref (b + 4), .int (iI (0)), .int (iI (u))]))) : CX Γ k_VS_again y_VS_again [.ref (b), .int (iI (path))] M (n) (fun v M' n' => n = n' ∧ (∀ q, q ≠ dr + 2 → q ≠ dr + 1 → q ≠ dr → q ≠ b → q ≠ b + 1 → M' q = M q) ∧ v = some (.int (iI (0))) ∧ M' (dr + 2) = some (.inl (Γ.2.2.1 0, 300, .inl (f2))) ∧ M' (dr + 1) = some (.inr (2, [.ref (dr + 2), .int (iI (0))])) ∧ M' (dr) = some (.inr (4, [.ref (dr + 1), .ref (dr + 3), .ref (dr + 4), .ref (dr + 5), .int (iI (0))])) ∧ M' (b) = some (.inr (0, [.ref (b + 1), .ref (b + 3), .ref (rq), .ref (dr), .int (iI ((-1))), .int (iI (tm)), .ref (b + 17), .ref (b + 19), .ref (b + 21), .ref (b + 25), .ref (b + 29)])) ∧ M' (b + 1) = some (.inr (2, [.ref (b + 2), .int (iI (0))])) ∧ (0 ≤ path ∧ path < 16)) (fun C M' n' => C = "java/lang/IllegalArgumentException" ∧ n ≤ n' ∧ (∀ q, q ≠ dr + 2 → q ≠ dr + 1 → q ≠ dr → q ≠ b → q ≠ b + 1 → M' q = M q) ∧ (¬ (0 ≤ path ∧ path < 16))) := by
  refine CX.of (by decide) rfl rfl 2 rfl (Nat.le_of_ble_eq_true rfl) rfl ?_
  refine g_aload_n d_VS_again_0 rfl ?_
  refine g_iload_n d_VS_again_1 rfl ?_
  refine g_callVX1 (ν := k_VS_readTape) ⟨w_218, w_30, w_221, by decide, by decide, by decide +kernel⟩ w_220 w_1 (c_VS_readTape Γ (b) (rq) (dr) (fp) (tm) (path) (f1) (f2) (ln) (zd) (by omega) (by omega) (by omega) (by omega) p0 p1 p2 p3 p4 p5) d_VS_again_2 p0 rfl rfl ⟨⟨by decide, by decide⟩, ⟨by decide, by decide⟩⟩ (Nat.le_of_ble_eq_true rfl) rfl (fun C9 M9 n9 h9 _ _ => h9) (fun v1 M1 n1 hQ1 hn1 hd1 => ?_)
  obtain ⟨rfl, hf1, rfl, hw1_0, hw1_1, hw1_2, hw1_3, hw1_4, hc1⟩ := hQ1
  refine g_aload_n d_VS_again_5 rfl ?_
  refine g_iload_n d_VS_again_6 rfl ?_
  refine g_callV1 (ν := k_VS_theOne0) ⟨w_428, w_30, w_431, by decide, by decide, by decide +kernel⟩ w_430 w_7 (c_VS_theOne0 Γ (b) (rq) (dr) ((-1)) (tm) (path) (u)  hw1_3 ((hf1 (b + 3) (by omega) (by omega) (by omega) (by omega) (by omega)).trans p6)) d_VS_again_7 hw1_3 rfl rfl ⟨⟨by decide, by decide⟩, ⟨by decide, by decide⟩⟩ (Nat.le_of_ble_eq_true rfl) (fun v2 M2 n2 hQ2 hn2 hd2 => ?_)
  obtain ⟨rfl, hf2, rfl⟩ := hQ2
  refine g_istore_n d_VS_again_10 (by decide) rfl ?_
  refine g_aload_n d_VS_again_11 rfl ?_
  refine g_get fa_VS_19 d_VS_again_12 ((hf2 (b) ).trans hw1_3) rfl ?_
  refine g_iload_n d_VS_again_15 rfl ?_
  refine g_callV1 (ν := k_Sh_at0) ⟨w_194, w_32, w_197, by decide, by decide, by decide +kernel⟩ w_195 w_196 (c_Sh_at0 Γ (b + 3) ((-1)) (u) (by omega) (by omega) ((hf2 ((b + 3)) ).trans ((hf1 ((b + 3)) (by omega) (by omega) (by omega) (by omega) (by omega)).trans p6))) d_VS_again_16 ((hf2 (b + 3) ).trans ((hf1 (b + 3) (by omega) (by omega) (by omega) (by omega) (by omega)).trans p6)) rfl rfl ⟨⟨by decide, by decide⟩, ⟨by decide, by decide⟩⟩ (Nat.le_of_ble_eq_true rfl) (fun v3 M3 n3 hQ3 hn3 hd3 => ?_)
  obtain ⟨rfl, hf3, rfl⟩ := hQ3
  refine g_astore_nN d_VS_again_19 (by decide) rfl ?_
  refine g_aload_nN d_VS_again_20 rfl ?_
  refine g_ifnonnullN d_VS_again_21 ?_
  refine g_iconst d_VS_again_24 ?_
  refine g_x ?_
  refine g_zret (ty := .boolean) (by first | rfl | decide) d_VS_again_25 rfl ?_ (by decide) (by decide)
  exact ⟨rfl, fun q e0 e1 e2 e3 e4 => ((hf3 q ).trans ((hf2 q ).trans ((hf1 q (by omega) (by omega) (by omega) (by omega) (by omega)).trans rfl))), rfl, ((hf3 (dr + 2) ).trans ((hf2 (dr + 2) ).trans hw1_0)), ((hf3 (dr + 1) ).trans ((hf2 (dr + 1) ).trans hw1_1)), ((hf3 (dr) ).trans ((hf2 (dr) ).trans hw1_2)), ((hf3 (b) ).trans ((hf2 (b) ).trans hw1_3)), ((hf3 (b + 1) ).trans ((hf2 (b + 1) ).trans hw1_4)), by omega⟩
def k_VS_pass : MS := ("VaryStore", b_VS_pass, 2, (some .int), "pass", { frames := 6, cells := 1, slots := 6, locals := 82 }, [])
set_option maxRecDepth 100000 in
set_option maxHeartbeats 4000000 in
theorem c_VS_pass (Γ : GE) (b : Nat) (rq : Nat) (dr : Nat) (fp : Int) (k : Int) {M : HM} {n : Nat} (ka : -2147483648 ≤ k) (kb : k < 2147483648) (p0 : M (b) = some (.inr (0, [.ref (b + 1), .ref (b + 3), .ref (rq), .ref (dr), .int (iI (fp)), .int (iI (0)), .ref (b + 17), .ref (b + 19), .ref (b + 21), .ref (b + 25), .ref (b + 29)]))) : CX Γ k_VS_pass y_VS_pass [.ref (b), .int (iI (k))] M (n) (fun v M' n' => n = n' ∧ (∀ q, q ≠ b → M' q = M q) ∧ v = some (.int (iI ((0 + k)))) ∧ M' (b) = some (.inr (0, [.ref (b + 1), .ref (b + 3), .ref (rq), .ref (dr), .int (iI (fp)), .int (iI ((0 + k))), .ref (b + 17), .ref (b + 19), .ref (b + 21), .ref (b + 25), .ref (b + 29)])) ∧ (1 ≤ k ∧ k ≤ 100000)) (fun C M' n' => C = "java/lang/IllegalArgumentException" ∧ n ≤ n' ∧ (∀ q, M' q = M q) ∧ (¬ (1 ≤ k ∧ k ≤ 100000))) := by
  refine CX.of (by decide) rfl rfl 0 rfl (Nat.le_of_ble_eq_true rfl) rfl ?_
  refine g_iload_n d_VS_pass_0 rfl ?_
  refine g_iconst d_VS_pass_1 ?_
  refine g_icmp_lt (tgt := 22) d_VS_pass_2 (by decide) (fun h1 => ?_) (fun h1 => ?_)
  · skip
    refine g_throw (lit := 3) (text := "so many seconds can not go by") (names := ["java/lang/RuntimeException", "java/lang/Exception"]) w_261 w_42 (by decide +kernel) (by decide +kernel) (by decide) at_VS_163_167.1 at_VS_163_167.2 d_VS_pass_22 d_VS_pass_25 d_VS_pass_26 d_VS_pass_28 d_VS_pass_31 rfl (by decide) (by decide) (by decide) (by decide) (fun n9 hn9 => ?_)
    exact ⟨rfl, by omega, fun q  => rfl, by omega⟩
  · skip
    refine g_iload_n d_VS_pass_5 rfl ?_
    refine g_ldcI (z := 100000) w_664 rfl d_VS_pass_6 ?_
    refine g_icmp_gt (tgt := 22) d_VS_pass_8 (by decide) (fun h2 => ?_) (fun h2 => ?_)
    · skip
      refine g_throw (lit := 3) (text := "so many seconds can not go by") (names := ["java/lang/RuntimeException", "java/lang/Exception"]) w_261 w_42 (by decide +kernel) (by decide +kernel) (by decide) at_VS_163_167.1 at_VS_163_167.2 d_VS_pass_22 d_VS_pass_25 d_VS_pass_26 d_VS_pass_28 d_VS_pass_31 rfl (by decide) (by decide) (by decide) (by decide) (fun n9 hn9 => ?_)
      exact ⟨rfl, by omega, fun q  => rfl, by omega⟩
    · skip
      refine g_aload_n d_VS_pass_11 rfl ?_
      refine g_get fa_VS_37 d_VS_pass_12 p0 rfl ?_
      refine g_iload_n d_VS_pass_15 rfl ?_
      refine g_iadd d_VS_pass_16 ?_
      refine g_ldcI (z := 1000000000) w_665 rfl d_VS_pass_17 ?_
      refine g_icmp_le (tgt := 32) d_VS_pass_19 (by decide) (fun h3 => ?_) (fun h3 => False.elim (by omega))
      refine g_aload_n d_VS_pass_32 rfl ?_
      refine g_dup d_VS_pass_33 rfl ?_
      refine g_get fa_VS_37 d_VS_pass_34 p0 rfl ?_
      refine g_iload_n d_VS_pass_37 rfl ?_
      refine g_iadd d_VS_pass_38 ?_
      refine g_put fa_VS_37 d_VS_pass_39 p0 (Nat.le_of_ble_eq_true rfl) rfl rfl rfl ?_
      refine g_aload_n d_VS_pass_42 rfl ?_
      refine g_get fa_VS_37 d_VS_pass_43 (hu_same _ _ _) rfl ?_
      refine g_x ?_
      refine g_iret d_VS_pass_46 rfl ?_ (by decide) (by decide)
      exact ⟨rfl, fun q e0 => ((hu_ne (by omega)).trans rfl), rfl, (hu_same _ _ _), by omega⟩
def k_Te_copy0 : MS := ("VaryStore$Text", b_Te_copy, 2, none, "copy", { frames := 2, cells := 0, slots := 0, locals := 61 }, [])
set_option maxRecDepth 100000 in
set_option maxHeartbeats 4000000 in
theorem c_Te_copy0 (Γ : GE) (t : Nat) (o : Nat) (ln : Int) (z : Int) (f : Nat → Int32) (g : Nat → Int32) (g1 : Nat → Int32) (g2 : Nat → Int32) (g3 : Nat → Int32) (h1 : Nat → Int32) (h2 : Nat → Int32) (h3 : Nat → Int32) {M : HM} {n : Nat} (hto : t + 6 ≤ o ∨ o + 6 ≤ t) (p0 : M (t) = some (.inr (4, [.ref (t + 1), .ref (t + 3), .ref (t + 4), .ref (t + 5), .int (iI (ln))]))) (p1 : M (t + 1) = some (.inr (2, [.ref (t + 2), .int (iI (z))]))) (p2 : M (t + 1 + 1) = some (.inl (Γ.2.2.1 0, 300, .inl (f)))) (p3 : M (t + 3) = some (.inl (Γ.2.2.1 1, 100, .inl (g1)))) (p4 : M (t + 4) = some (.inl (Γ.2.2.1 1, 100, .inl (g2)))) (p5 : M (t + 5) = some (.inl (Γ.2.2.1 1, 100, .inl (g3)))) (p6 : M (o) = some (.inr (4, [.ref (o + 1), .ref (o + 3), .ref (o + 4), .ref (o + 5), .int (iI (0))]))) (p7 : M (o + 1) = some (.inr (2, [.ref (o + 2), .int (iI (0))]))) (p8 : M (o + 1 + 1) = some (.inl (Γ.2.2.1 0, 300, .inl (g)))) (p9 : M (o + 3) = some (.inl (Γ.2.2.1 1, 100, .inl (h1)))) (p10 : M (o + 4) = some (.inl (Γ.2.2.1 1, 100, .inl (h2)))) (p11 : M (o + 5) = some (.inl (Γ.2.2.1 1, 100, .inl (h3)))) : CT Γ k_Te_copy0 y_Te_copy [.ref (t), .ref (o)] M (n) (fun v M' n' => n = n' ∧ (∀ q, q ≠ t + 2 → q ≠ t + 1 → q ≠ t + 3 → q ≠ t + 4 → q ≠ t + 5 → q ≠ t → M' q = M q) ∧ v = none ∧ M' (t + 2) = some (.inl (Γ.2.2.1 0, 300, .inl (f))) ∧ M' (t + 1) = some (.inr (2, [.ref (t + 2), .int (iI (0))])) ∧ M' (t + 3) = some (.inl (Γ.2.2.1 1, 100, .inl (g1))) ∧ M' (t + 4) = some (.inl (Γ.2.2.1 1, 100, .inl (g2))) ∧ M' (t + 5) = some (.inl (Γ.2.2.1 1, 100, .inl (g3))) ∧ M' (t) = some (.inr (4, [.ref (t + 1), .ref (t + 3), .ref (t + 4), .ref (t + 5), .int (iI (0))]))) := by
  refine CT.of (by decide) rfl rfl 0 rfl (Nat.le_of_ble_eq_true rfl) rfl ?_
  refine g_aload_n d_Te_copy_0 rfl ?_
  refine g_get fa_Te_12 d_Te_copy_1 p0 rfl ?_
  refine g_aload_n d_Te_copy_4 rfl ?_
  refine g_get fa_Te_12 d_Te_copy_5 p6 rfl ?_
  refine g_callV1 (ν := k_Ro_copy0) ⟨w_226, w_31, w_229, by decide, by decide, by decide +kernel⟩ w_227 w_228 (c_Ro_copy0 Γ (t + 1) (o + 1) (z) (f) (g) (by omega) p1 p2 p7 p8) d_Te_copy_8 p1 rfl rfl ⟨⟨by decide, by decide⟩, ⟨by decide, by decide⟩⟩ (Nat.le_of_ble_eq_true rfl) (fun v1 M1 n1 hQ1 hn1 hd1 => ?_)
  obtain ⟨rfl, hf1, rfl, hw1_0, hw1_1⟩ := hQ1
  refine g_aload_n d_Te_copy_11 rfl ?_
  refine g_get fa_Te_18 d_Te_copy_12 ((hf1 (o) (by omega) (by omega)).trans p6) rfl ?_
  refine g_iconst d_Te_copy_15 ?_
  refine g_aload_n d_Te_copy_16 rfl ?_
  refine g_get fa_Te_18 d_Te_copy_17 ((hf1 (t) (by omega) (by omega)).trans p0) rfl ?_
  refine g_iconst d_Te_copy_20 ?_
  refine g_aload_n d_Te_copy_21 rfl ?_
  refine g_get fa_Te_28 d_Te_copy_22 ((hf1 (o) (by omega) (by omega)).trans p6) rfl ?_
  refine g_copy (sp := 0) (dp := 0) (k := 0) 1 rfl (by decide) d_Te_copy_25 w_585 w_232 w_231 w_37 ((hf1 (o + 3) (by omega) (by omega)).trans p9) ((hf1 (t + 3) (by omega) (by omega)).trans p3) (by omega) (by omega) (by omega) (by omega) (fun i hi => absurd hi (by omega)) (by decide) (Nat.le_of_ble_eq_true rfl) ?_
  rw [va_cpy0]
  refine g_aload_n d_Te_copy_28 rfl ?_
  refine g_get fa_Te_22 d_Te_copy_29 ((hu_ne (by omega)).trans ((hf1 (o) (by omega) (by omega)).trans p6)) rfl ?_
  refine g_iconst d_Te_copy_32 ?_
  refine g_aload_n d_Te_copy_33 rfl ?_
  refine g_get fa_Te_22 d_Te_copy_34 ((hu_ne (by omega)).trans ((hf1 (t) (by omega) (by omega)).trans p0)) rfl ?_
  refine g_iconst d_Te_copy_37 ?_
  refine g_aload_n d_Te_copy_38 rfl ?_
  refine g_get fa_Te_28 d_Te_copy_39 ((hu_ne (by omega)).trans ((hf1 (o) (by omega) (by omega)).trans p6)) rfl ?_
  refine g_copy (sp := 0) (dp := 0) (k := 0) 1 rfl (by decide) d_Te_copy_42 w_585 w_232 w_231 w_37 ((hu_ne (by omega)).trans ((hf1 (o + 4) (by omega) (by omega)).trans p10)) ((hu_ne (by omega)).trans ((hf1 (t + 4) (by omega) (by omega)).trans p4)) (by omega) (by omega) (by omega) (by omega) (fun i hi => absurd hi (by omega)) (by decide) (Nat.le_of_ble_eq_true rfl) ?_
  rw [va_cpy0]
  refine g_aload_n d_Te_copy_45 rfl ?_
  refine g_get fa_Te_25 d_Te_copy_46 ((hu_ne (by omega)).trans ((hu_ne (by omega)).trans ((hf1 (o) (by omega) (by omega)).trans p6))) rfl ?_
  refine g_iconst d_Te_copy_49 ?_
  refine g_aload_n d_Te_copy_50 rfl ?_
  refine g_get fa_Te_25 d_Te_copy_51 ((hu_ne (by omega)).trans ((hu_ne (by omega)).trans ((hf1 (t) (by omega) (by omega)).trans p0))) rfl ?_
  refine g_iconst d_Te_copy_54 ?_
  refine g_aload_n d_Te_copy_55 rfl ?_
  refine g_get fa_Te_28 d_Te_copy_56 ((hu_ne (by omega)).trans ((hu_ne (by omega)).trans ((hf1 (o) (by omega) (by omega)).trans p6))) rfl ?_
  refine g_copy (sp := 0) (dp := 0) (k := 0) 1 rfl (by decide) d_Te_copy_59 w_585 w_232 w_231 w_37 ((hu_ne (by omega)).trans ((hu_ne (by omega)).trans ((hf1 (o + 5) (by omega) (by omega)).trans p11))) ((hu_ne (by omega)).trans ((hu_ne (by omega)).trans ((hf1 (t + 5) (by omega) (by omega)).trans p5))) (by omega) (by omega) (by omega) (by omega) (fun i hi => absurd hi (by omega)) (by decide) (Nat.le_of_ble_eq_true rfl) ?_
  rw [va_cpy0]
  refine g_aload_n d_Te_copy_62 rfl ?_
  refine g_aload_n d_Te_copy_63 rfl ?_
  refine g_get fa_Te_28 d_Te_copy_64 ((hu_ne (by omega)).trans ((hu_ne (by omega)).trans ((hu_ne (by omega)).trans ((hf1 (o) (by omega) (by omega)).trans p6)))) rfl ?_
  refine g_put fa_Te_28 d_Te_copy_67 ((hu_ne (by omega)).trans ((hu_ne (by omega)).trans ((hu_ne (by omega)).trans ((hf1 (t) (by omega) (by omega)).trans p0)))) (Nat.le_of_ble_eq_true rfl) rfl rfl rfl ?_
  refine g_vret d_Te_copy_70 rfl ?_ (by decide) (by decide)
  exact ⟨rfl, fun q e0 e1 e2 e3 e4 e5 => ((hu_ne (by omega)).trans ((hu_ne (by omega)).trans ((hu_ne (by omega)).trans ((hu_ne (by omega)).trans ((hf1 q (by omega) (by omega)).trans rfl))))), rfl, ((hu_ne (by omega)).trans ((hu_ne (by omega)).trans ((hu_ne (by omega)).trans ((hu_ne (by omega)).trans hw1_0)))), ((hu_ne (by omega)).trans ((hu_ne (by omega)).trans ((hu_ne (by omega)).trans ((hu_ne (by omega)).trans hw1_1)))), ((hu_ne (by omega)).trans ((hu_ne (by omega)).trans ((hu_ne (by omega)).trans (hu_same _ _ _)))), ((hu_ne (by omega)).trans ((hu_ne (by omega)).trans (hu_same _ _ _))), ((hu_ne (by omega)).trans (hu_same _ _ _)), (hu_same _ _ _)⟩
def k_Ro_makeSmall0 : MS := ("VaryStore$Row", b_Ro_makeSmall, 4, none, "makeSmall", { frames := 1, cells := 0, slots := 0, locals := 13 }, [])
set_option maxRecDepth 100000 in
set_option maxHeartbeats 4000000 in
theorem c_Ro_makeSmall0 (Γ : GE) (a : Nat) (x : Nat) {M : HM} {n : Nat}  (p0 : M (a) = some (.inr (2, [.ref (x), .int (iI (0))]))) : CT Γ k_Ro_makeSmall0 y_Ro_makeSmall [.ref (a), .int (iI (0)), .int (iI (0))] M (n) (fun v M' n' => n = n' ∧ (∀ q, M' q = M q) ∧ v = none) := by
  refine CT.of (by decide) rfl rfl 1 rfl (Nat.le_of_ble_eq_true rfl) rfl ?_
  refine g_iconst d_Ro_makeSmall_0 ?_
  refine g_iload_n d_Ro_makeSmall_1 rfl ?_
  refine g_max d_Ro_makeSmall_2 w_254 w_255 w_38 w_256 (by decide) (Nat.le_of_ble_eq_true rfl) (by decide) (by decide) (by omega) (by omega) (by omega) (by omega) ?_
  refine g_istore_n d_Ro_makeSmall_5 (by decide) rfl ?_
  refine g_iload_n d_Ro_makeSmall_6 rfl ?_
  refine g_iload_n d_Ro_makeSmall_7 rfl ?_
  refine g_icmp_ge (tgt := 40) d_Ro_makeSmall_8 (by decide) (fun _ => ?_) (fun h1 => False.elim (by omega))
  refine g_vret d_Ro_makeSmall_40 rfl ?_ (by decide) (by decide)
  exact ⟨rfl, fun q  => rfl, rfl⟩
def k_It_makeSmall0 : MS := ("VaryStore$Items", b_It_makeSmall, 1, none, "makeSmall", { frames := 2, cells := 0, slots := 0, locals := 36 }, [])
set_option maxRecDepth 100000 in
set_option maxHeartbeats 4000000 in
theorem c_It_makeSmall0 (Γ : GE) (s : Nat) (e : Nat) (cc : Int) (x : Nat) {M : HM} {n : Nat}  (p0 : M (s) = some (.inr (1, [.ref (s + 1), .ref (e), .int (iI (cc))]))) (p1 : M (s + 1) = some (.inr (2, [.ref (x), .int (iI (0))]))) : CT Γ k_It_makeSmall0 y_It_makeSmall [.ref (s)] M (n) (fun v M' n' => n = n' ∧ (∀ q, M' q = M q) ∧ v = none) := by
  refine CT.of (by decide) rfl rfl 0 rfl (Nat.le_of_ble_eq_true rfl) rfl ?_
  refine g_aload_n d_It_makeSmall_0 rfl ?_
  refine g_get fa_It_12 d_It_makeSmall_1 p0 rfl ?_
  refine g_iconst d_It_makeSmall_4 ?_
  refine g_aload_n d_It_makeSmall_5 rfl ?_
  refine g_get fa_It_12 d_It_makeSmall_6 p0 rfl ?_
  refine g_get fa_It_29 d_It_makeSmall_9 p1 rfl ?_
  refine g_callV2 (ν := k_Ro_makeSmall0) ⟨w_593, w_31, w_253, by decide, by decide, by decide +kernel⟩ w_251 w_252 (c_Ro_makeSmall0 Γ (s + 1) (x)  p1) d_It_makeSmall_12 p1 rfl rfl ⟨⟨by decide, by decide⟩, ⟨by decide, by decide⟩⟩ (Nat.le_of_ble_eq_true rfl) (fun v1 M1 n1 hQ1 hn1 hd1 => ?_)
  obtain ⟨rfl, hf1, rfl⟩ := hQ1
  refine g_vret d_It_makeSmall_15 rfl ?_ (by decide) (by decide)
  exact ⟨rfl, fun q  => ((hf1 q ).trans rfl), rfl⟩
def k_Sh_spare0 : MS := ("VaryStore$Shelf", b_Sh_spare, 2, (some (.object "VaryStore$Thing")), "spare", { frames := 4, cells := 13, slots := 1377, locals := 72 }, [])
set_option maxRecDepth 100000 in
set_option maxHeartbeats 4000000 in
theorem c_Sh_spare0 (Γ : GE) (s : Nat) (cc : Int) (u : Int) {M : HM} {n : Nat} (hsn : s + 2 ≤ n) (p0 : M (s) = some (.inr (3, [.ref (s + 1), .int (iI (cc)), .int (iI (u))]))) (p1 : M (s + 1) = some (.inl (Γ.2.2.1 2, 25, .inr (.inr (.inr (.inr (fun _ => none))))))) : CT Γ k_Sh_spare0 y_Sh_spare [.ref (s)] M (n) (fun v M' n' => n + 13 = n' ∧ (∀ q, q ≠ n → q ≠ n + 1 → q ≠ n + 2 → q ≠ n + 3 → q ≠ n + 4 → q ≠ n + 5 → q ≠ n + 6 → q ≠ n + 7 → q ≠ n + 8 → q ≠ n + 9 → q ≠ n + 10 → q ≠ n + 11 → q ≠ n + 12 → q ≠ s + 1 → M' q = M q) ∧ v = some (.ref (n)) ∧ M' (n) = some (.inr (5, [.ref (n + 1), .ref (n + 3), .ref (n + 7), .int (iI (0)), .int (iI ((-2))), .int (iI ((-2))), .int (iI (0)), .int (iI (0)), .int (iI (0)), .int (iI (0)), .int (iI (0)), .int (iI (0)), .int (iI (0))])) ∧ M' (n + 1) = some (.inr (2, [.ref (n + 2), .int (iI (0))])) ∧ M' (n + 2) = some (.inl (Γ.2.2.1 0, 300, .inl (fun _ => iI 0))) ∧ M' (n + 3) = some (.inr (1, [.ref (n + 4), .ref (n + 6), .int (iI (0))])) ∧ M' (n + 4) = some (.inr (2, [.ref (n + 5), .int (iI (0))])) ∧ M' (n + 5) = some (.inl (Γ.2.2.1 0, 300, .inl (fun _ => iI 0))) ∧ M' (n + 6) = some (.inl (Γ.2.2.1 1, 150, .inl (fun _ => iI 0))) ∧ M' (n + 7) = some (.inr (4, [.ref (n + 8), .ref (n + 10), .ref (n + 11), .ref (n + 12), .int (iI (0))])) ∧ M' (n + 8) = some (.inr (2, [.ref (n + 9), .int (iI (0))])) ∧ M' (n + 9) = some (.inl (Γ.2.2.1 0, 300, .inl (fun _ => iI 0))) ∧ M' (n + 10) = some (.inl (Γ.2.2.1 1, 100, .inl (fun _ => iI 0))) ∧ M' (n + 11) = some (.inl (Γ.2.2.1 1, 100, .inl (fun _ => iI 0))) ∧ M' (n + 12) = some (.inl (Γ.2.2.1 1, 100, .inl (fun _ => iI 0))) ∧ M' (s + 1) = some (.inl (Γ.2.2.1 2, 25, .inr (.inr (.inr (.inr (va_up (fun _ => none) (24 : Int).toNat (some (n))))))))) := by
  refine CT.of (by decide) rfl rfl 1 rfl (Nat.le_of_ble_eq_true rfl) rfl ?_
  refine g_aload_n d_Sh_spare_0 rfl ?_
  refine g_get fa_Sh_11 d_Sh_spare_1 p0 rfl ?_
  refine g_bipush d_Sh_spare_4 (by decide) ?_
  refine g_aald (v := .null) 2 rfl d_Sh_spare_6 p1 (by omega) (by omega) (by omega) (by first | rfl | simp [va_rf, va_up]) ?_
  refine g_astore_nN d_Sh_spare_7 (by decide) rfl ?_
  refine g_aload_nN d_Sh_spare_8 rfl ?_
  refine g_ifnonnullN d_Sh_spare_9 ?_
  refine g_new (ci := 5) t_Th [.null, .null, .null, .int (iI (0)), .int (iI (0)), .int (iI (0)), .int (iI (0)), .int (iI (0)), .int (iI (0)), .int (iI (0)), .int (iI (0)), .int (iI (0)), .int (iI (0))] rfl uw_Th to_Th (fun j hj => by rcases (show j = 0 ∨ j = 1 ∨ j = 2 ∨ j = 3 ∨ j = 4 ∨ j = 5 ∨ j = 6 ∨ j = 7 ∨ j = 8 ∨ j = 9 ∨ j = 10 ∨ j = 11 ∨ j = 12 by omega) with rfl | rfl | rfl | rfl | rfl | rfl | rfl | rfl | rfl | rfl | rfl | rfl | rfl <;> rfl) d_Sh_spare_12 w_81 w_514 w_47 (by decide) (by decide) ?_
  refine g_dup d_Sh_spare_15 rfl ?_
  refine g_callIN0 (ν := k_Th_init) ⟨⟨"VaryStore", w_515⟩, w_47, w_517, by decide, by decide, by decide +kernel⟩ w_516 rfl rfl (c_Th_init Γ (n)  (hu_same _ _ _)) d_Sh_spare_16 ⟨⟨by decide, by decide⟩, ⟨by decide, by decide⟩⟩ (Nat.le_of_ble_eq_true rfl) (fun v1 M1 n1 hQ1 hn1 hd1 => ?_)
  obtain ⟨rfl, hf1, rfl, hw1_0, hw1_1, hw1_2, hw1_3, hw1_4, hw1_5, hw1_6, hw1_7, hw1_8, hw1_9, hw1_10, hw1_11, hw1_12⟩ := hQ1
  refine g_astore_n d_Sh_spare_19 (by decide) rfl ?_
  refine g_aload_n d_Sh_spare_20 rfl ?_
  refine g_get fa_Sh_11 d_Sh_spare_21 ((hf1 (s) (by omega) (by omega) (by omega) (by omega) (by omega) (by omega) (by omega) (by omega) (by omega) (by omega) (by omega) (by omega) (by omega)).trans ((hu_ne (by omega)).trans p0)) rfl ?_
  refine g_bipush d_Sh_spare_24 (by decide) ?_
  refine g_aload_n d_Sh_spare_26 rfl ?_
  refine g_aast 2 (ci := 5) rfl rfl d_Sh_spare_27 ((hf1 (s + 1) (by omega) (by omega) (by omega) (by omega) (by omega) (by omega) (by omega) (by omega) (by omega) (by omega) (by omega) (by omega) (by omega)).trans ((hu_ne (by omega)).trans p1)) hw1_2 (by omega) (by omega) (by omega) ?_
  refine g_aload_n d_Sh_spare_28 rfl ?_
  refine g_aret (rt := (.object "VaryStore$Thing")) (by first | exact Or.inl ⟨_, rfl⟩ | exact Or.inr ⟨_, rfl⟩) (by first | exact Or.inl rfl | exact Or.inr ⟨_, rfl⟩) d_Sh_spare_29 rfl ?_ (by decide) (by decide)
  exact ⟨rfl, fun q e0 e1 e2 e3 e4 e5 e6 e7 e8 e9 e10 e11 e12 e13 => ((hu_ne (by omega)).trans ((hf1 q (by omega) (by omega) (by omega) (by omega) (by omega) (by omega) (by omega) (by omega) (by omega) (by omega) (by omega) (by omega) (by omega)).trans ((hu_ne (by omega)).trans rfl))), rfl, ((hu_ne (by omega)).trans hw1_2), ((hu_ne (by omega)).trans hw1_0), ((hu_ne (by omega)).trans hw1_1), ((hu_ne (by omega)).trans hw1_3), ((hu_ne (by omega)).trans hw1_4), ((hu_ne (by omega)).trans hw1_5), ((hu_ne (by omega)).trans hw1_6), ((hu_ne (by omega)).trans hw1_7), ((hu_ne (by omega)).trans hw1_8), ((hu_ne (by omega)).trans hw1_9), ((hu_ne (by omega)).trans hw1_10), ((hu_ne (by omega)).trans hw1_11), ((hu_ne (by omega)).trans hw1_12), (hu_same _ _ _)⟩
def k_Th_obey0 : MS := ("VaryStore$Thing", b_Th_obey, 2, none, "obey", { frames := 2, cells := 0, slots := 0, locals := 45 }, [])
set_option maxRecDepth 100000 in
set_option maxHeartbeats 4000000 in
theorem c_Th_obey0 (Γ : GE) (t : Nat) (s : Nat) (ph : Int) (t1 : Int) (t2 : Int) (t3 : Int) (t4 : Int) (t5 : Int) (t6 : Int) (t7 : Int) (t8 : Int) (t9 : Int) (r : Nat) (e : Nat) {M : HM} {n : Nat} (hts : t ≠ s) (p0 : M (t) = some (.inr (5, [.ref (t + 1), .ref (t + 3), .ref (t + 7), .int (iI (ph)), .int (iI (t1)), .int (iI (t2)), .int (iI (t3)), .int (iI (t4)), .int (iI (t5)), .int (iI (t6)), .int (iI (t7)), .int (iI (t8)), .int (iI (t9))]))) (p1 : M (s) = some (.inr (1, [.ref (r), .ref (e), .int (iI (0))]))) : CT Γ k_Th_obey0 y_Th_obey [.ref (t), .ref (s)] M (n) (fun v M' n' => n = n' ∧ (∀ q, q ≠ t → M' q = M q) ∧ v = none ∧ M' (t) = some (.inr (5, [.ref (t + 1), .ref (t + 3), .ref (t + 7), .int (iI (ph)), .int (iI ((-2))), .int (iI ((-2))), .int (iI (0)), .int (iI (0)), .int (iI (0)), .int (iI (t6)), .int (iI (t7)), .int (iI (t8)), .int (iI (t9))]))) := by
  refine CT.of (by decide) rfl rfl 0 rfl (Nat.le_of_ble_eq_true rfl) rfl ?_
  refine g_aload_n d_Th_obey_0 rfl ?_
  refine g_aload_n d_Th_obey_1 rfl ?_
  refine g_ldcS (text := "s-maxage") (lit := 18) (by decide) d_Th_obey_2 ?_
  refine g_callV1 (ν := k_It_said0) ⟨w_599, w_34, w_469, by decide, by decide, by decide +kernel⟩ w_467 w_468 (c_It_said0 Γ (s) (18) (r) (e)  p1) d_Th_obey_4 p1 rfl rfl ⟨⟨by decide, by decide⟩, ⟨by decide, by decide⟩⟩ (Nat.le_of_ble_eq_true rfl) (fun v1 M1 n1 hQ1 hn1 hd1 => ?_)
  obtain ⟨rfl, hf1, rfl⟩ := hQ1
  refine g_put fa_Th_36 d_Th_obey_7 ((hf1 (t) ).trans p0) (Nat.le_of_ble_eq_true rfl) rfl rfl rfl ?_
  refine g_aload_n d_Th_obey_10 rfl ?_
  refine g_aload_n d_Th_obey_11 rfl ?_
  refine g_ldcS (text := "max-age") (lit := 14) (by decide) d_Th_obey_12 ?_
  refine g_callV1 (ν := k_It_said0) ⟨w_599, w_34, w_469, by decide, by decide, by decide +kernel⟩ w_467 w_468 (c_It_said0 Γ (s) (14) (r) (e)  ((hu_ne (by omega)).trans ((hf1 (s) ).trans p1))) d_Th_obey_14 ((hu_ne (by omega)).trans ((hf1 (s) ).trans p1)) rfl rfl ⟨⟨by decide, by decide⟩, ⟨by decide, by decide⟩⟩ (Nat.le_of_ble_eq_true rfl) (fun v2 M2 n2 hQ2 hn2 hd2 => ?_)
  obtain ⟨rfl, hf2, rfl⟩ := hQ2
  refine g_put fa_Th_39 d_Th_obey_17 ((hf2 (t) ).trans (hu_same _ _ _)) (Nat.le_of_ble_eq_true rfl) rfl rfl rfl ?_
  refine g_aload_n d_Th_obey_20 rfl ?_
  refine g_aload_n d_Th_obey_21 rfl ?_
  refine g_ldcS (text := "no-store") (lit := 13) (by decide) d_Th_obey_22 ?_
  refine g_callV1 (ν := k_It_has0) ⟨w_602, w_34, w_489, by decide, by decide, by decide +kernel⟩ w_487 w_488 (c_It_has0 Γ (s) (13) (r) (e)  ((hu_ne (by omega)).trans ((hf2 (s) ).trans ((hu_ne (by omega)).trans ((hf1 (s) ).trans p1))))) d_Th_obey_24 ((hu_ne (by omega)).trans ((hf2 (s) ).trans ((hu_ne (by omega)).trans ((hf1 (s) ).trans p1)))) rfl rfl ⟨⟨by decide, by decide⟩, ⟨by decide, by decide⟩⟩ (Nat.le_of_ble_eq_true rfl) (fun v3 M3 n3 hQ3 hn3 hd3 => ?_)
  obtain ⟨rfl, hf3, rfl⟩ := hQ3
  refine g_if_ne (tgt := 39) d_Th_obey_27 (by decide) (fun h4 => False.elim (by omega)) (fun _ => ?_)
  refine g_aload_n d_Th_obey_30 rfl ?_
  refine g_ldcS (text := "private") (lit := 19) (by decide) d_Th_obey_31 ?_
  refine g_callV1 (ν := k_It_has0) ⟨w_602, w_34, w_489, by decide, by decide, by decide +kernel⟩ w_487 w_488 (c_It_has0 Γ (s) (19) (r) (e)  ((hf3 (s) ).trans ((hu_ne (by omega)).trans ((hf2 (s) ).trans ((hu_ne (by omega)).trans ((hf1 (s) ).trans p1)))))) d_Th_obey_33 ((hf3 (s) ).trans ((hu_ne (by omega)).trans ((hf2 (s) ).trans ((hu_ne (by omega)).trans ((hf1 (s) ).trans p1))))) rfl rfl ⟨⟨by decide, by decide⟩, ⟨by decide, by decide⟩⟩ (Nat.le_of_ble_eq_true rfl) (fun v5 M5 n5 hQ5 hn5 hd5 => ?_)
  obtain ⟨rfl, hf5, rfl⟩ := hQ5
  refine g_if_eq (tgt := 43) d_Th_obey_36 (by decide) (fun _ => ?_) (fun h6 => False.elim (by omega))
  refine g_iconst d_Th_obey_43 ?_
  refine g_put fa_Th_42 d_Th_obey_44 ((hf5 (t) ).trans ((hf3 (t) ).trans (hu_same _ _ _))) (Nat.le_of_ble_eq_true rfl) rfl (by first | rfl | decide) rfl ?_
  refine g_aload_n d_Th_obey_47 rfl ?_
  refine g_aload_n d_Th_obey_48 rfl ?_
  refine g_ldcS (text := "no-cache") (lit := 15) (by decide) d_Th_obey_49 ?_
  refine g_callV1 (ν := k_It_has0) ⟨w_602, w_34, w_489, by decide, by decide, by decide +kernel⟩ w_487 w_488 (c_It_has0 Γ (s) (15) (r) (e)  ((hu_ne (by omega)).trans ((hf5 (s) ).trans ((hf3 (s) ).trans ((hu_ne (by omega)).trans ((hf2 (s) ).trans ((hu_ne (by omega)).trans ((hf1 (s) ).trans p1)))))))) d_Th_obey_51 ((hu_ne (by omega)).trans ((hf5 (s) ).trans ((hf3 (s) ).trans ((hu_ne (by omega)).trans ((hf2 (s) ).trans ((hu_ne (by omega)).trans ((hf1 (s) ).trans p1))))))) rfl rfl ⟨⟨by decide, by decide⟩, ⟨by decide, by decide⟩⟩ (Nat.le_of_ble_eq_true rfl) (fun v7 M7 n7 hQ7 hn7 hd7 => ?_)
  obtain ⟨rfl, hf7, rfl⟩ := hQ7
  refine g_put fa_Th_46 d_Th_obey_54 ((hf7 (t) ).trans (hu_same _ _ _)) (Nat.le_of_ble_eq_true rfl) rfl (by first | rfl | decide) rfl ?_
  refine g_aload_n d_Th_obey_57 rfl ?_
  refine g_aload_n d_Th_obey_58 rfl ?_
  refine g_get fa_Th_46 d_Th_obey_59 (hu_same _ _ _) rfl ?_
  refine g_if_ne (tgt := 92) d_Th_obey_62 (by decide) (fun h8 => False.elim (by omega)) (fun _ => ?_)
  refine g_aload_n d_Th_obey_65 rfl ?_
  refine g_get fa_Th_36 d_Th_obey_66 (hu_same _ _ _) rfl ?_
  refine g_bipush d_Th_obey_69 (by decide) ?_
  refine g_icmp_ne (tgt := 92) d_Th_obey_71 (by decide) (fun h9 => False.elim (by omega)) (fun _ => ?_)
  refine g_aload_n d_Th_obey_74 rfl ?_
  refine g_ldcS (text := "must-revalidate") (lit := 20) (by decide) d_Th_obey_75 ?_
  refine g_callV1 (ν := k_It_has0) ⟨w_602, w_34, w_489, by decide, by decide, by decide +kernel⟩ w_487 w_488 (c_It_has0 Γ (s) (20) (r) (e)  ((hu_ne (by omega)).trans ((hf7 (s) ).trans ((hu_ne (by omega)).trans ((hf5 (s) ).trans ((hf3 (s) ).trans ((hu_ne (by omega)).trans ((hf2 (s) ).trans ((hu_ne (by omega)).trans ((hf1 (s) ).trans p1)))))))))) d_Th_obey_77 ((hu_ne (by omega)).trans ((hf7 (s) ).trans ((hu_ne (by omega)).trans ((hf5 (s) ).trans ((hf3 (s) ).trans ((hu_ne (by omega)).trans ((hf2 (s) ).trans ((hu_ne (by omega)).trans ((hf1 (s) ).trans p1))))))))) rfl rfl ⟨⟨by decide, by decide⟩, ⟨by decide, by decide⟩⟩ (Nat.le_of_ble_eq_true rfl) (fun v10 M10 n10 hQ10 hn10 hd10 => ?_)
  obtain ⟨rfl, hf10, rfl⟩ := hQ10
  refine g_if_ne (tgt := 92) d_Th_obey_80 (by decide) (fun h11 => False.elim (by omega)) (fun _ => ?_)
  refine g_aload_n d_Th_obey_83 rfl ?_
  refine g_ldcS (text := "proxy-revalidate") (lit := 21) (by decide) d_Th_obey_84 ?_
  refine g_callV1 (ν := k_It_has0) ⟨w_602, w_34, w_489, by decide, by decide, by decide +kernel⟩ w_487 w_488 (c_It_has0 Γ (s) (21) (r) (e)  ((hf10 (s) ).trans ((hu_ne (by omega)).trans ((hf7 (s) ).trans ((hu_ne (by omega)).trans ((hf5 (s) ).trans ((hf3 (s) ).trans ((hu_ne (by omega)).trans ((hf2 (s) ).trans ((hu_ne (by omega)).trans ((hf1 (s) ).trans p1))))))))))) d_Th_obey_86 ((hf10 (s) ).trans ((hu_ne (by omega)).trans ((hf7 (s) ).trans ((hu_ne (by omega)).trans ((hf5 (s) ).trans ((hf3 (s) ).trans ((hu_ne (by omega)).trans ((hf2 (s) ).trans ((hu_ne (by omega)).trans ((hf1 (s) ).trans p1)))))))))) rfl rfl ⟨⟨by decide, by decide⟩, ⟨by decide, by decide⟩⟩ (Nat.le_of_ble_eq_true rfl) (fun v12 M12 n12 hQ12 hn12 hd12 => ?_)
  obtain ⟨rfl, hf12, rfl⟩ := hQ12
  refine g_if_eq (tgt := 96) d_Th_obey_89 (by decide) (fun _ => ?_) (fun h13 => False.elim (by omega))
  refine g_iconst d_Th_obey_96 ?_
  refine g_put fa_Th_49 d_Th_obey_97 ((hf12 (t) ).trans ((hf10 (t) ).trans (hu_same _ _ _))) (Nat.le_of_ble_eq_true rfl) rfl (by first | rfl | decide) rfl ?_
  refine g_vret d_Th_obey_100 rfl ?_ (by decide) (by decide)
  exact ⟨rfl, fun q e0 => ((hu_ne (by omega)).trans ((hf12 q ).trans ((hf10 q ).trans ((hu_ne (by omega)).trans ((hf7 q ).trans ((hu_ne (by omega)).trans ((hf5 q ).trans ((hf3 q ).trans ((hu_ne (by omega)).trans ((hf2 q ).trans ((hu_ne (by omega)).trans ((hf1 q ).trans rfl)))))))))))), rfl, (hu_same _ _ _)⟩
def k_VS_describe0 : MS := ("VaryStore", b_VS_describe, 3, none, "describe", { frames := 7, cells := 0, slots := 0, locals := 153 }, [])
set_option maxRecDepth 100000 in
set_option maxHeartbeats 4000000 in
theorem c_VS_describe0 (Γ : GE) (b : Nat) (fp : Int) (tm : Int) (t : Nat) (path : Int) (ph : Int) (t1 : Int) (t2 : Int) (t3 : Int) (t4 : Int) (t5 : Int) (t6 : Int) (t7 : Int) (t8 : Int) (t9 : Int) (z : Int) (w : Int) (cc : Int) (zv : Int) (ze : Int) (ln : Int) (zt : Int) (f : Nat → Int32) (fv : Nat → Int32) (fr : Nat → Int32) (fa : Nat → Int32) (fb : Nat → Int32) (fc : Nat → Int32) (ge : Nat → Int32) (g1 : Nat → Int32) (g2 : Nat → Int32) (g3 : Nat → Int32) (g4 : Nat → Int32) (y : Nat) {M : HM} {n : Nat} (ht : b + 33 ≤ t) (p0 : M (b) = some (.inr (0, [.ref (b + 1), .ref (b + 3), .ref (b + 5), .ref (b + 11), .int (iI (fp)), .int (iI (tm)), .ref (b + 17), .ref (b + 19), .ref (b + 21), .ref (b + 25), .ref (b + 29)]))) (p1 : M (b + 5) = some (.inr (4, [.ref (b + 6), .ref (b + 8), .ref (b + 9), .ref (b + 10), .int (iI (0))]))) (p2 : M (b + 6) = some (.inr (2, [.ref (b + 7), .int (iI (0))]))) (p3 : M (b + 6 + 1) = some (.inl (Γ.2.2.1 0, 300, .inl (fr)))) (p4 : M (b + 5 + 3) = some (.inl (Γ.2.2.1 1, 100, .inl (fa)))) (p5 : M (b + 5 + 4) = some (.inl (Γ.2.2.1 1, 100, .inl (fb)))) (p6 : M (b + 5 + 5) = some (.inl (Γ.2.2.1 1, 100, .inl (fc)))) (p7 : M (b + 11) = some (.inr (4, [.ref (b + 12), .ref (b + 14), .ref (b + 15), .ref (b + 16), .int (iI (0))]))) (p8 : M (b + 17) = some (.inr (2, [.ref (b + 18), .int (iI (z))]))) (p9 : M (b + 17 + 1) = some (.inl (Γ.2.2.1 0, 300, .inl (f)))) (p10 : M (b + 19) = some (.inr (2, [.ref (b + 20), .int (iI (w))]))) (p11 : M (b + 19 + 1) = some (.inl (Γ.2.2.1 0, 300, .inl (fv)))) (p12 : M (t) = some (.inr (5, [.ref (t + 1), .ref (t + 3), .ref (t + 7), .int (iI (ph)), .int (iI (t1)), .int (iI (t2)), .int (iI (t3)), .int (iI (t4)), .int (iI (t5)), .int (iI (t6)), .int (iI (t7)), .int (iI (t8)), .int (iI (t9))]))) (p13 : M (t + 1) = some (.inr (2, [.ref (t + 2), .int (iI (ze))]))) (p14 : M (t + 1 + 1) = some (.inl (Γ.2.2.1 0, 300, .inl (ge)))) (p15 : M (t + 3) = some (.inr (1, [.ref (t + 4), .ref (t + 6), .int (iI (cc))]))) (p16 : M (t + 4) = some (.inr (2, [.ref (y), .int (iI (zv))]))) (p17 : M (t + 7) = some (.inr (4, [.ref (t + 8), .ref (t + 10), .ref (t + 11), .ref (t + 12), .int (iI (ln))]))) (p18 : M (t + 8) = some (.inr (2, [.ref (t + 9), .int (iI (zt))]))) (p19 : M (t + 8 + 1) = some (.inl (Γ.2.2.1 0, 300, .inl (g4)))) (p20 : M (t + 7 + 3) = some (.inl (Γ.2.2.1 1, 100, .inl (g1)))) (p21 : M (t + 7 + 4) = some (.inl (Γ.2.2.1 1, 100, .inl (g2)))) (p22 : M (t + 7 + 5) = some (.inl (Γ.2.2.1 1, 100, .inl (g3)))) : CT Γ k_VS_describe0 y_VS_describe [.ref (b), .ref (t), .int (iI (path))] M (n) (fun v M' n' => n = n' ∧ (∀ q, q ≠ t → q ≠ t + 9 → q ≠ t + 8 → q ≠ t + 10 → q ≠ t + 11 → q ≠ t + 12 → q ≠ t + 7 → q ≠ b + 17 → q ≠ b + 18 → q ≠ b + 19 → q ≠ t + 2 → q ≠ t + 1 → q ≠ t + 4 → q ≠ t + 3 → M' q = M q) ∧ ∃ (zs4 : Int) (fs4 : Nat → Int32), v = none ∧ 0 ≤ zs4 ∧ zs4 ≤ 40 ∧ M' (t) = some (.inr (5, [.ref (t + 1), .ref (t + 3), .ref (t + 7), .int (iI (path)), .int (iI (t1)), .int (iI (t2)), .int (iI (t3)), .int (iI (t4)), .int (iI (t5)), .int (iI (t6)), .int (iI (t7)), .int (iI (t8)), .int (iI (t9))])) ∧ M' (t + 9) = some (.inl (Γ.2.2.1 0, 300, .inl (g4))) ∧ M' (t + 8) = some (.inr (2, [.ref (t + 9), .int (iI (0))])) ∧ M' (t + 10) = some (.inl (Γ.2.2.1 1, 100, .inl (g1))) ∧ M' (t + 11) = some (.inl (Γ.2.2.1 1, 100, .inl (g2))) ∧ M' (t + 12) = some (.inl (Γ.2.2.1 1, 100, .inl (g3))) ∧ M' (t + 7) = some (.inr (4, [.ref (t + 8), .ref (t + 10), .ref (t + 11), .ref (t + 12), .int (iI (0))])) ∧ M' (b + 17) = some (.inr (2, [.ref (b + 18), .int (iI (zs4))])) ∧ M' (b + 18) = some (.inl (Γ.2.2.1 0, 300, .inl (fs4))) ∧ M' (b + 19) = some (.inr (2, [.ref (b + 20), .int (iI (0))])) ∧ M' (t + 2) = some (.inl (Γ.2.2.1 0, 300, .inl (ge))) ∧ M' (t + 1) = some (.inr (2, [.ref (t + 2), .int (iI (0))])) ∧ M' (t + 4) = some (.inr (2, [.ref (y), .int (iI (0))])) ∧ M' (t + 3) = some (.inr (1, [.ref (t + 4), .ref (t + 6), .int (iI (0))]))) := by
  refine CT.of (by decide) rfl rfl 0 rfl (Nat.le_of_ble_eq_true rfl) rfl ?_
  refine g_aload_n d_VS_describe_0 rfl ?_
  refine g_iload_n d_VS_describe_1 rfl ?_
  refine g_put fa_VS_158 d_VS_describe_2 p12 (Nat.le_of_ble_eq_true rfl) rfl rfl rfl ?_
  refine g_aload_n d_VS_describe_5 rfl ?_
  refine g_get fa_VS_226 d_VS_describe_6 (hu_same _ _ _) rfl ?_
  refine g_aload_n d_VS_describe_9 rfl ?_
  refine g_get fa_VS_26 d_VS_describe_10 ((hu_ne (by omega)).trans p0) rfl ?_
  refine g_callV1 (ν := k_Te_copy0) ⟨w_581, w_33, w_584, by decide, by decide, by decide +kernel⟩ w_582 w_583 (c_Te_copy0 Γ (t + 7) (b + 5) (ln) (zt) (g4) (fr) (g1) (g2) (g3) (fa) (fb) (fc) (by omega) ((hu_ne (by omega)).trans p17) ((hu_ne (by omega)).trans p18) ((hu_ne (by omega)).trans p19) ((hu_ne (by omega)).trans p20) ((hu_ne (by omega)).trans p21) ((hu_ne (by omega)).trans p22) ((hu_ne (by omega)).trans p1) ((hu_ne (by omega)).trans p2) ((hu_ne (by omega)).trans p3) ((hu_ne (by omega)).trans p4) ((hu_ne (by omega)).trans p5) ((hu_ne (by omega)).trans p6)) d_VS_describe_13 ((hu_ne (by omega)).trans p17) rfl rfl ⟨⟨by decide, by decide⟩, ⟨by decide, by decide⟩⟩ (Nat.le_of_ble_eq_true rfl) (fun v1 M1 n1 hQ1 hn1 hd1 => ?_)
  obtain ⟨rfl, hf1, rfl, hw1_0, hw1_1, hw1_2, hw1_3, hw1_4, hw1_5⟩ := hQ1
  refine g_aload_n d_VS_describe_16 rfl ?_
  refine g_aload_n d_VS_describe_17 rfl ?_
  refine g_get fa_VS_30 d_VS_describe_18 ((hf1 (b) (by omega) (by omega) (by omega) (by omega) (by omega) (by omega)).trans ((hu_ne (by omega)).trans p0)) rfl ?_
  refine g_ldcS (text := "etag") (lit := 2) (by decide) d_VS_describe_21 ?_
  refine g_callV2 (ν := k_VS_gather0) ⟨w_334, w_30, w_337, by decide, by decide, by decide +kernel⟩ w_336 w_5 (c_VS_gather0 Γ (b) (b + 5) (b + 11) (fp) (tm) (b + 11) (2) (z) (f) (w) (b + 20) (by first | omega | decide | (have h9 := lenLit_le 2; omega)) (by first | omega | decide | (have h9 := lenLit_le 2; omega)) ((hf1 (b) (by omega) (by omega) (by omega) (by omega) (by omega) (by omega)).trans ((hu_ne (by omega)).trans p0)) ((hf1 (b + 17) (by omega) (by omega) (by omega) (by omega) (by omega) (by omega)).trans ((hu_ne (by omega)).trans p8)) ((hf1 (b + 17 + 1) (by omega) (by omega) (by omega) (by omega) (by omega) (by omega)).trans ((hu_ne (by omega)).trans p9)) ((hf1 (b + 19) (by omega) (by omega) (by omega) (by omega) (by omega) (by omega)).trans ((hu_ne (by omega)).trans p10)) ((hf1 ((b + 11)) (by omega) (by omega) (by omega) (by omega) (by omega) (by omega)).trans ((hu_ne (by omega)).trans p7))) d_VS_describe_23 ((hf1 (b) (by omega) (by omega) (by omega) (by omega) (by omega) (by omega)).trans ((hu_ne (by omega)).trans p0)) rfl rfl ⟨⟨by decide, by decide⟩, ⟨by decide, by decide⟩⟩ (Nat.le_of_ble_eq_true rfl) (fun v2 M2 n2 hQ2 hn2 hd2 => ?_)
  obtain ⟨rfl, hf2, zs2, fs2, rfl, hb2_zs2_0, hb2_zs2_1, hw2_0, hw2_1, hw2_2⟩ := hQ2
  refine g_pop d_VS_describe_26 rfl ?_
  refine g_aload_n d_VS_describe_27 rfl ?_
  refine g_get fa_VS_149 d_VS_describe_28 ((hf2 (t) (by omega) (by omega) (by omega)).trans ((hf1 (t) (by omega) (by omega) (by omega) (by omega) (by omega) (by omega)).trans (hu_same _ _ _))) rfl ?_
  refine g_aload_n d_VS_describe_31 rfl ?_
  refine g_get fa_VS_43 d_VS_describe_32 ((hf2 (b) (by omega) (by omega) (by omega)).trans ((hf1 (b) (by omega) (by omega) (by omega) (by omega) (by omega) (by omega)).trans ((hu_ne (by omega)).trans p0))) rfl ?_
  refine g_callV1 (ν := k_Ro_copy0) ⟨w_587, w_31, w_229, by decide, by decide, by decide +kernel⟩ w_227 w_228 (c_Ro_copy0 Γ (t + 1) (b + 19) (ze) (ge) (fv) (by omega) ((hf2 ((t + 1)) (by omega) (by omega) (by omega)).trans ((hf1 ((t + 1)) (by omega) (by omega) (by omega) (by omega) (by omega) (by omega)).trans ((hu_ne (by omega)).trans p13))) ((hf2 ((t + 1) + 1) (by omega) (by omega) (by omega)).trans ((hf1 ((t + 1) + 1) (by omega) (by omega) (by omega) (by omega) (by omega) (by omega)).trans ((hu_ne (by omega)).trans p14))) hw2_2 ((hf2 ((b + 19) + 1) (by omega) (by omega) (by omega)).trans ((hf1 ((b + 19) + 1) (by omega) (by omega) (by omega) (by omega) (by omega) (by omega)).trans ((hu_ne (by omega)).trans p11)))) d_VS_describe_35 ((hf2 (t + 1) (by omega) (by omega) (by omega)).trans ((hf1 (t + 1) (by omega) (by omega) (by omega) (by omega) (by omega) (by omega)).trans ((hu_ne (by omega)).trans p13))) rfl rfl ⟨⟨by decide, by decide⟩, ⟨by decide, by decide⟩⟩ (Nat.le_of_ble_eq_true rfl) (fun v3 M3 n3 hQ3 hn3 hd3 => ?_)
  obtain ⟨rfl, hf3, rfl, hw3_0, hw3_1⟩ := hQ3
  refine g_aload_n d_VS_describe_38 rfl ?_
  refine g_aload_n d_VS_describe_39 rfl ?_
  refine g_get fa_VS_30 d_VS_describe_40 ((hf3 (b) (by omega) (by omega)).trans ((hf2 (b) (by omega) (by omega) (by omega)).trans ((hf1 (b) (by omega) (by omega) (by omega) (by omega) (by omega) (by omega)).trans ((hu_ne (by omega)).trans p0)))) rfl ?_
  refine g_ldcS (text := "vary") (lit := 8) (by decide) d_VS_describe_43 ?_
  refine g_aload_n d_VS_describe_45 rfl ?_
  refine g_get fa_VS_184 d_VS_describe_46 ((hf3 (t) (by omega) (by omega)).trans ((hf2 (t) (by omega) (by omega) (by omega)).trans ((hf1 (t) (by omega) (by omega) (by omega) (by omega) (by omega) (by omega)).trans (hu_same _ _ _)))) rfl ?_
  refine g_callV3 (ν := k_VS_cutList0) ⟨w_330, w_30, w_333, by decide, by decide, by decide +kernel⟩ w_332 w_4 (c_VS_cutList0 Γ (b) (b + 5) (b + 11) (fp) (tm) (b + 11) (8) (t + 3) (zs2) (fs2) (0) (b + 20) (cc) (zv) (y) (t + 6) (by first | omega | decide | (have h9 := lenLit_le 8; omega)) (by first | omega | decide | (have h9 := lenLit_le 8; omega)) (by first | omega | decide | (have h9 := lenLit_le 8; omega)) ((hf3 (b) (by omega) (by omega)).trans ((hf2 (b) (by omega) (by omega) (by omega)).trans ((hf1 (b) (by omega) (by omega) (by omega) (by omega) (by omega) (by omega)).trans ((hu_ne (by omega)).trans p0)))) ((hf3 (b + 17) (by omega) (by omega)).trans hw2_0) ((hf3 (b + 17 + 1) (by omega) (by omega)).trans hw2_1) ((hf3 (b + 19) (by omega) (by omega)).trans hw2_2) ((hf3 ((b + 11)) (by omega) (by omega)).trans ((hf2 ((b + 11)) (by omega) (by omega) (by omega)).trans ((hf1 ((b + 11)) (by omega) (by omega) (by omega) (by omega) (by omega) (by omega)).trans ((hu_ne (by omega)).trans p7)))) ((hf3 ((t + 3)) (by omega) (by omega)).trans ((hf2 ((t + 3)) (by omega) (by omega) (by omega)).trans ((hf1 ((t + 3)) (by omega) (by omega) (by omega) (by omega) (by omega) (by omega)).trans ((hu_ne (by omega)).trans p15)))) ((hf3 ((t + 3) + 1) (by omega) (by omega)).trans ((hf2 ((t + 3) + 1) (by omega) (by omega) (by omega)).trans ((hf1 ((t + 3) + 1) (by omega) (by omega) (by omega) (by omega) (by omega) (by omega)).trans ((hu_ne (by omega)).trans p16))))) d_VS_describe_49 ((hf3 (b) (by omega) (by omega)).trans ((hf2 (b) (by omega) (by omega) (by omega)).trans ((hf1 (b) (by omega) (by omega) (by omega) (by omega) (by omega) (by omega)).trans ((hu_ne (by omega)).trans p0)))) rfl rfl ⟨⟨by decide, by decide⟩, ⟨by decide, by decide⟩⟩ (Nat.le_of_ble_eq_true rfl) (fun v4 M4 n4 hQ4 hn4 hd4 => ?_)
  obtain ⟨rfl, hf4, zs4, fs4, rfl, hb4_zs4_0, hb4_zs4_1, hw4_0, hw4_1, hw4_2, hw4_3, hw4_4⟩ := hQ4
  refine g_pop d_VS_describe_52 rfl ?_
  refine g_aload_n d_VS_describe_53 rfl ?_
  refine g_get fa_VS_184 d_VS_describe_54 ((hf4 (t) (by omega) (by omega) (by omega) (by omega) (by omega)).trans ((hf3 (t) (by omega) (by omega)).trans ((hf2 (t) (by omega) (by omega) (by omega)).trans ((hf1 (t) (by omega) (by omega) (by omega) (by omega) (by omega) (by omega)).trans (hu_same _ _ _))))) rfl ?_
  refine g_callV0 (ν := k_It_makeSmall0) ⟨w_589, w_34, w_592, by decide, by decide, by decide +kernel⟩ w_590 w_591 (c_It_makeSmall0 Γ (t + 3) (t + 6) (0) (y)  hw4_4 hw4_3) d_VS_describe_57 hw4_4 rfl rfl ⟨⟨by decide, by decide⟩, ⟨by decide, by decide⟩⟩ (Nat.le_of_ble_eq_true rfl) (fun v5 M5 n5 hQ5 hn5 hd5 => ?_)
  obtain ⟨rfl, hf5, rfl⟩ := hQ5
  refine g_vret d_VS_describe_60 rfl ?_ (by decide) (by decide)
  exact ⟨rfl, fun q e0 e1 e2 e3 e4 e5 e6 e7 e8 e9 e10 e11 e12 e13 => ((hf5 q ).trans ((hf4 q (by omega) (by omega) (by omega) (by omega) (by omega)).trans ((hf3 q (by omega) (by omega)).trans ((hf2 q (by omega) (by omega) (by omega)).trans ((hf1 q (by omega) (by omega) (by omega) (by omega) (by omega) (by omega)).trans ((hu_ne (by omega)).trans rfl)))))), zs4, fs4, rfl, hb4_zs4_0, hb4_zs4_1, ((hf5 (t) ).trans ((hf4 (t) (by omega) (by omega) (by omega) (by omega) (by omega)).trans ((hf3 (t) (by omega) (by omega)).trans ((hf2 (t) (by omega) (by omega) (by omega)).trans ((hf1 (t) (by omega) (by omega) (by omega) (by omega) (by omega) (by omega)).trans (hu_same _ _ _)))))), ((hf5 (t + 9) ).trans ((hf4 (t + 9) (by omega) (by omega) (by omega) (by omega) (by omega)).trans ((hf3 (t + 9) (by omega) (by omega)).trans ((hf2 (t + 9) (by omega) (by omega) (by omega)).trans hw1_0)))), ((hf5 (t + 8) ).trans ((hf4 (t + 8) (by omega) (by omega) (by omega) (by omega) (by omega)).trans ((hf3 (t + 8) (by omega) (by omega)).trans ((hf2 (t + 8) (by omega) (by omega) (by omega)).trans hw1_1)))), ((hf5 (t + 10) ).trans ((hf4 (t + 10) (by omega) (by omega) (by omega) (by omega) (by omega)).trans ((hf3 (t + 10) (by omega) (by omega)).trans ((hf2 (t + 10) (by omega) (by omega) (by omega)).trans hw1_2)))), ((hf5 (t + 11) ).trans ((hf4 (t + 11) (by omega) (by omega) (by omega) (by omega) (by omega)).trans ((hf3 (t + 11) (by omega) (by omega)).trans ((hf2 (t + 11) (by omega) (by omega) (by omega)).trans hw1_3)))), ((hf5 (t + 12) ).trans ((hf4 (t + 12) (by omega) (by omega) (by omega) (by omega) (by omega)).trans ((hf3 (t + 12) (by omega) (by omega)).trans ((hf2 (t + 12) (by omega) (by omega) (by omega)).trans hw1_4)))), ((hf5 (t + 7) ).trans ((hf4 (t + 7) (by omega) (by omega) (by omega) (by omega) (by omega)).trans ((hf3 (t + 7) (by omega) (by omega)).trans ((hf2 (t + 7) (by omega) (by omega) (by omega)).trans hw1_5)))), ((hf5 (b + 17) ).trans hw4_0), ((hf5 (b + 18) ).trans hw4_1), ((hf5 (b + 19) ).trans hw4_2), ((hf5 (t + 2) ).trans ((hf4 (t + 2) (by omega) (by omega) (by omega) (by omega) (by omega)).trans hw3_0)), ((hf5 (t + 1) ).trans ((hf4 (t + 1) (by omega) (by omega) (by omega) (by omega) (by omega)).trans hw3_1)), ((hf5 (t + 4) ).trans hw4_3), ((hf5 (t + 3) ).trans hw4_4)⟩
def k_VS_startLife0 : MS := ("VaryStore", b_VS_startLife, 4, none, "startLife", { frames := 7, cells := 0, slots := 0, locals := 150 }, [])
set_option maxRecDepth 100000 in
set_option maxHeartbeats 4000000 in
theorem c_VS_startLife0 (Γ : GE) (b : Nat) (fp : Int) (tm : Int) (t : Nat) (ph : Int) (t6 : Int) (t7 : Int) (t8 : Int) (t9 : Int) (z : Int) (w : Int) (f : Nat → Int32) (fv : Nat → Int32) {M : HM} {n : Nat} (ht : b + 33 ≤ t) (p0 : M (b) = some (.inr (0, [.ref (b + 1), .ref (b + 3), .ref (b + 5), .ref (b + 11), .int (iI (fp)), .int (iI (tm)), .ref (b + 17), .ref (b + 19), .ref (b + 21), .ref (b + 25), .ref (b + 29)]))) (p1 : M (b + 11) = some (.inr (4, [.ref (b + 12), .ref (b + 14), .ref (b + 15), .ref (b + 16), .int (iI (0))]))) (p2 : M (b + 17) = some (.inr (2, [.ref (b + 18), .int (iI (z))]))) (p3 : M (b + 17 + 1) = some (.inl (Γ.2.2.1 0, 300, .inl (f)))) (p4 : M (b + 19) = some (.inr (2, [.ref (b + 20), .int (iI (w))]))) (p5 : M (b + 19 + 1) = some (.inl (Γ.2.2.1 0, 300, .inl (fv)))) (p6 : M (t) = some (.inr (5, [.ref (t + 1), .ref (t + 3), .ref (t + 7), .int (iI (ph)), .int (iI ((-2))), .int (iI ((-2))), .int (iI (0)), .int (iI (0)), .int (iI (0)), .int (iI (t6)), .int (iI (t7)), .int (iI (t8)), .int (iI (t9))]))) : CT Γ k_VS_startLife0 y_VS_startLife [.ref (b), .ref (t)] M (n) (fun v M' n' => n = n' ∧ (∀ q, q ≠ b + 17 → q ≠ b + 18 → q ≠ b + 19 → q ≠ t → M' q = M q) ∧ ∃ (zs6 : Int) (fs6 : Nat → Int32), v = none ∧ 0 ≤ zs6 ∧ zs6 ≤ 40 ∧ M' (b + 17) = some (.inr (2, [.ref (b + 18), .int (iI (zs6))])) ∧ M' (b + 18) = some (.inl (Γ.2.2.1 0, 300, .inl (fs6))) ∧ M' (b + 19) = some (.inr (2, [.ref (b + 20), .int (iI (0))])) ∧ M' (t) = some (.inr (5, [.ref (t + 1), .ref (t + 3), .ref (t + 7), .int (iI (ph)), .int (iI ((-2))), .int (iI ((-2))), .int (iI (0)), .int (iI (0)), .int (iI (0)), .int (iI (0)), .int (iI ((max (0) ((-1))))), .int (iI (tm)), .int (iI (t9))]))) := by
  refine CT.of (by decide) rfl rfl 2 rfl (Nat.le_of_ble_eq_true rfl) rfl ?_
  refine g_aload_n d_VS_startLife_0 rfl ?_
  refine g_ldcS (text := "expires") (lit := 9) (by decide) d_VS_startLife_1 ?_
  refine g_callV1 (ν := k_VS_numberOf0) ⟨w_612, w_30, w_615, by decide, by decide, by decide +kernel⟩ w_614 w_14 (c_VS_numberOf0 Γ (b) (b + 5) (b + 11) (fp) (tm) (9) (z) (f) (w) (b + 20) (by first | omega | decide | (have h9 := lenLit_le 9; omega)) (by first | omega | decide | (have h9 := lenLit_le 9; omega)) p0 p2 p3 p4 p1) d_VS_startLife_3 p0 rfl rfl ⟨⟨by decide, by decide⟩, ⟨by decide, by decide⟩⟩ (Nat.le_of_ble_eq_true rfl) (fun v1 M1 n1 hQ1 hn1 hd1 => ?_)
  obtain ⟨rfl, hf1, zs1, fs1, rfl, hb1_zs1_0, hb1_zs1_1, hw1_0, hw1_1, hw1_2⟩ := hQ1
  refine g_istore_n d_VS_startLife_6 (by decide) rfl ?_
  refine g_aload_n d_VS_startLife_7 rfl ?_
  refine g_ldcS (text := "date") (lit := 10) (by decide) d_VS_startLife_8 ?_
  refine g_callV1 (ν := k_VS_numberOf0) ⟨w_612, w_30, w_615, by decide, by decide, by decide +kernel⟩ w_614 w_14 (c_VS_numberOf0 Γ (b) (b + 5) (b + 11) (fp) (tm) (10) (zs1) (fs1) (0) (b + 20) (by first | omega | decide | (have h9 := lenLit_le 10; omega)) (by first | omega | decide | (have h9 := lenLit_le 10; omega)) ((hf1 (b) (by omega) (by omega) (by omega)).trans p0) hw1_0 hw1_1 hw1_2 ((hf1 ((b + 11)) (by omega) (by omega) (by omega)).trans p1)) d_VS_startLife_10 ((hf1 (b) (by omega) (by omega) (by omega)).trans p0) rfl rfl ⟨⟨by decide, by decide⟩, ⟨by decide, by decide⟩⟩ (Nat.le_of_ble_eq_true rfl) (fun v2 M2 n2 hQ2 hn2 hd2 => ?_)
  obtain ⟨rfl, hf2, zs2, fs2, rfl, hb2_zs2_0, hb2_zs2_1, hw2_0, hw2_1, hw2_2⟩ := hQ2
  refine g_istore_n d_VS_startLife_13 (by decide) rfl ?_
  refine g_aload_n d_VS_startLife_14 rfl ?_
  refine g_get fa_VS_245 d_VS_startLife_15 ((hf2 (t) (by omega) (by omega) (by omega)).trans ((hf1 (t) (by omega) (by omega) (by omega)).trans p6)) rfl ?_
  refine g_if_lt (tgt := 32) d_VS_startLife_18 (by decide) (fun _ => ?_) (fun h3 => False.elim (by omega))
  refine g_aload_n d_VS_startLife_32 rfl ?_
  refine g_get fa_VS_248 d_VS_startLife_33 ((hf2 (t) (by omega) (by omega) (by omega)).trans ((hf1 (t) (by omega) (by omega) (by omega)).trans p6)) rfl ?_
  refine g_if_lt (tgt := 50) d_VS_startLife_36 (by decide) (fun _ => ?_) (fun h4 => False.elim (by omega))
  refine g_iload_n d_VS_startLife_50 rfl ?_
  refine g_iconst d_VS_startLife_51 ?_
  refine g_icmp_eq (tgt := 74) d_VS_startLife_52 (by decide) (fun _ => ?_) (fun h5 => False.elim (by omega))
  refine g_aload_n d_VS_startLife_74 rfl ?_
  refine g_iconst d_VS_startLife_75 ?_
  refine g_put fa_VS_178 d_VS_startLife_76 ((hf2 (t) (by omega) (by omega) (by omega)).trans ((hf1 (t) (by omega) (by omega) (by omega)).trans p6)) (Nat.le_of_ble_eq_true rfl) rfl rfl rfl ?_
  refine g_aload_n d_VS_startLife_79 rfl ?_
  refine g_iconst d_VS_startLife_80 ?_
  refine g_aload_n d_VS_startLife_81 rfl ?_
  refine g_ldcSW (text := "age") (lit := 11) (by decide) d_VS_startLife_82 ?_
  refine g_callV1 (ν := k_VS_numberOf0) ⟨w_612, w_30, w_615, by decide, by decide, by decide +kernel⟩ w_614 w_14 (c_VS_numberOf0 Γ (b) (b + 5) (b + 11) (fp) (tm) (11) (zs2) (fs2) (0) (b + 20) (by first | omega | decide | (have h9 := lenLit_le 11; omega)) (by first | omega | decide | (have h9 := lenLit_le 11; omega)) ((hu_ne (by omega)).trans ((hf2 (b) (by omega) (by omega) (by omega)).trans ((hf1 (b) (by omega) (by omega) (by omega)).trans p0))) ((hu_ne (by omega)).trans hw2_0) ((hu_ne (by omega)).trans hw2_1) ((hu_ne (by omega)).trans hw2_2) ((hu_ne (by omega)).trans ((hf2 ((b + 11)) (by omega) (by omega) (by omega)).trans ((hf1 ((b + 11)) (by omega) (by omega) (by omega)).trans p1)))) d_VS_startLife_85 ((hu_ne (by omega)).trans ((hf2 (b) (by omega) (by omega) (by omega)).trans ((hf1 (b) (by omega) (by omega) (by omega)).trans p0))) rfl rfl ⟨⟨by decide, by decide⟩, ⟨by decide, by decide⟩⟩ (Nat.le_of_ble_eq_true rfl) (fun v6 M6 n6 hQ6 hn6 hd6 => ?_)
  obtain ⟨rfl, hf6, zs6, fs6, rfl, hb6_zs6_0, hb6_zs6_1, hw6_0, hw6_1, hw6_2⟩ := hQ6
  refine g_max d_VS_startLife_88 w_618 w_255 w_38 w_256 (by decide) (Nat.le_of_ble_eq_true rfl) (by decide) (by decide) (by omega) (by omega) (by omega) (by omega) ?_
  refine g_put fa_VS_258 d_VS_startLife_91 ((hf6 (t) (by omega) (by omega) (by omega)).trans (hu_same _ _ _)) (Nat.le_of_ble_eq_true rfl) rfl rfl rfl ?_
  refine g_aload_n d_VS_startLife_94 rfl ?_
  refine g_aload_n d_VS_startLife_95 rfl ?_
  refine g_get fa_VS_37 d_VS_startLife_96 ((hu_ne (by omega)).trans ((hf6 (b) (by omega) (by omega) (by omega)).trans ((hu_ne (by omega)).trans ((hf2 (b) (by omega) (by omega) (by omega)).trans ((hf1 (b) (by omega) (by omega) (by omega)).trans p0))))) rfl ?_
  refine g_put fa_VS_260 d_VS_startLife_99 (hu_same _ _ _) (Nat.le_of_ble_eq_true rfl) rfl rfl rfl ?_
  refine g_vret d_VS_startLife_102 rfl ?_ (by decide) (by decide)
  exact ⟨rfl, fun q e0 e1 e2 e3 => ((hu_ne (by omega)).trans ((hu_ne (by omega)).trans ((hf6 q (by omega) (by omega) (by omega)).trans ((hu_ne (by omega)).trans ((hf2 q (by omega) (by omega) (by omega)).trans ((hf1 q (by omega) (by omega) (by omega)).trans rfl)))))), zs6, fs6, rfl, hb6_zs6_0, hb6_zs6_1, ((hu_ne (by omega)).trans ((hu_ne (by omega)).trans hw6_0)), ((hu_ne (by omega)).trans ((hu_ne (by omega)).trans hw6_1)), ((hu_ne (by omega)).trans ((hu_ne (by omega)).trans hw6_2)), (hu_same _ _ _)⟩
def k_VS_mayBeKept0 : MS := ("VaryStore", b_VS_mayBeKept, 2, (some .boolean), "mayBeKept", { frames := 7, cells := 0, slots := 0, locals := 153 }, [])
set_option maxRecDepth 100000 in
set_option maxHeartbeats 4000000 in
theorem c_VS_mayBeKept0 (Γ : GE) (b : Nat) (fp : Int) (tm : Int) (t : Nat) (ph : Int) (t7 : Int) (t8 : Int) (t9 : Int) (z : Int) (w : Int) (cc : Int) (zz : Int) (f : Nat → Int32) (fv : Nat → Int32) (y : Nat) (e : Nat) (x : Nat) (x2 : Nat) (x3 : Nat) {M : HM} {n : Nat} (ht : b + 33 ≤ t) (p0 : M (b) = some (.inr (0, [.ref (b + 1), .ref (b + 3), .ref (b + 5), .ref (b + 11), .int (iI (fp)), .int (iI (tm)), .ref (b + 17), .ref (b + 19), .ref (b + 21), .ref (b + 25), .ref (b + 29)]))) (p1 : M (b + 5) = some (.inr (4, [.ref (b + 6), .ref (b + 8), .ref (b + 9), .ref (b + 10), .int (iI (0))]))) (p2 : M (b + 17) = some (.inr (2, [.ref (b + 18), .int (iI (z))]))) (p3 : M (b + 17 + 1) = some (.inl (Γ.2.2.1 0, 300, .inl (f)))) (p4 : M (b + 19) = some (.inr (2, [.ref (b + 20), .int (iI (w))]))) (p5 : M (b + 19 + 1) = some (.inl (Γ.2.2.1 0, 300, .inl (fv)))) (p6 : M (b + 21) = some (.inr (1, [.ref (b + 22), .ref (e), .int (iI (cc))]))) (p7 : M (b + 22) = some (.inr (2, [.ref (y), .int (iI (zz))]))) (p8 : M (t) = some (.inr (5, [.ref (t + 1), .ref (t + 3), .ref (t + 7), .int (iI (ph)), .int (iI ((-2))), .int (iI ((-2))), .int (iI (0)), .int (iI (0)), .int (iI (0)), .int (iI (0)), .int (iI (t7)), .int (iI (t8)), .int (iI (t9))]))) (p9 : M (t + 1) = some (.inr (2, [.ref (x), .int (iI (0))]))) (p10 : M (t + 3) = some (.inr (1, [.ref (x2), .ref (x3), .int (iI (0))]))) : CT Γ k_VS_mayBeKept0 y_VS_mayBeKept [.ref (b), .ref (t)] M (n) (fun v M' n' => n = n' ∧ (∀ q, q ≠ b + 17 → q ≠ b + 18 → q ≠ b + 19 → q ≠ b + 22 → q ≠ b + 21 → M' q = M q) ∧ ∃ (zs4 : Int) (fs4 : Nat → Int32), v = some (.int (iI (0))) ∧ 0 ≤ zs4 ∧ zs4 ≤ 40 ∧ M' (b + 17) = some (.inr (2, [.ref (b + 18), .int (iI (zs4))])) ∧ M' (b + 18) = some (.inl (Γ.2.2.1 0, 300, .inl (fs4))) ∧ M' (b + 19) = some (.inr (2, [.ref (b + 20), .int (iI (0))])) ∧ M' (b + 22) = some (.inr (2, [.ref (y), .int (iI (0))])) ∧ M' (b + 21) = some (.inr (1, [.ref (b + 22), .ref (e), .int (iI (0))]))) := by
  refine CT.of (by decide) rfl rfl 0 rfl (Nat.le_of_ble_eq_true rfl) rfl ?_
  refine g_aload_n d_VS_mayBeKept_0 rfl ?_
  refine g_get fa_VS_263 d_VS_mayBeKept_1 p8 rfl ?_
  refine g_if_ne (tgt := 20) d_VS_mayBeKept_4 (by decide) (fun h1 => False.elim (by omega)) (fun _ => ?_)
  refine g_aload_n d_VS_mayBeKept_7 rfl ?_
  refine g_get fa_VS_184 d_VS_mayBeKept_8 p8 rfl ?_
  refine g_ldcSW (text := "*") (lit := 12) (by decide) d_VS_mayBeKept_11 ?_
  refine g_callV1 (ν := k_It_holds0) ⟨w_629, w_34, w_632, by decide, by decide, by decide +kernel⟩ w_630 w_631 (c_It_holds0 Γ (t + 3) (12) (x2) (x3)  p10) d_VS_mayBeKept_14 p10 rfl rfl ⟨⟨by decide, by decide⟩, ⟨by decide, by decide⟩⟩ (Nat.le_of_ble_eq_true rfl) (fun v2 M2 n2 hQ2 hn2 hd2 => ?_)
  obtain ⟨rfl, hf2, rfl⟩ := hQ2
  refine g_if_eq (tgt := 22) d_VS_mayBeKept_17 (by decide) (fun _ => ?_) (fun h3 => False.elim (by omega))
  refine g_aload_n d_VS_mayBeKept_22 rfl ?_
  refine g_aload_n d_VS_mayBeKept_23 rfl ?_
  refine g_get fa_VS_26 d_VS_mayBeKept_24 ((hf2 (b) ).trans p0) rfl ?_
  refine g_ldcS (text := "cache-control") (lit := 0) (by decide) d_VS_mayBeKept_27 ?_
  refine g_aload_n d_VS_mayBeKept_29 rfl ?_
  refine g_get fa_VS_49 d_VS_mayBeKept_30 ((hf2 (b) ).trans p0) rfl ?_
  refine g_callV3 (ν := k_VS_cutList0) ⟨w_330, w_30, w_333, by decide, by decide, by decide +kernel⟩ w_332 w_4 (c_VS_cutList0 Γ (b) (b + 5) (b + 11) (fp) (tm) (b + 5) (0) (b + 21) (z) (f) (w) (b + 20) (cc) (zz) (y) (e) (by first | omega | decide | (have h9 := lenLit_le 0; omega)) (by first | omega | decide | (have h9 := lenLit_le 0; omega)) (by first | omega | decide | (have h9 := lenLit_le 0; omega)) ((hf2 (b) ).trans p0) ((hf2 (b + 17) ).trans p2) ((hf2 (b + 17 + 1) ).trans p3) ((hf2 (b + 19) ).trans p4) ((hf2 ((b + 5)) ).trans p1) ((hf2 ((b + 21)) ).trans p6) ((hf2 ((b + 21) + 1) ).trans p7)) d_VS_mayBeKept_33 ((hf2 (b) ).trans p0) rfl rfl ⟨⟨by decide, by decide⟩, ⟨by decide, by decide⟩⟩ (Nat.le_of_ble_eq_true rfl) (fun v4 M4 n4 hQ4 hn4 hd4 => ?_)
  obtain ⟨rfl, hf4, zs4, fs4, rfl, hb4_zs4_0, hb4_zs4_1, hw4_0, hw4_1, hw4_2, hw4_3, hw4_4⟩ := hQ4
  refine g_pop d_VS_mayBeKept_36 rfl ?_
  refine g_aload_n d_VS_mayBeKept_37 rfl ?_
  refine g_get fa_VS_49 d_VS_mayBeKept_38 ((hf4 (b) (by omega) (by omega) (by omega) (by omega) (by omega)).trans ((hf2 (b) ).trans p0)) rfl ?_
  refine g_ldcSW (text := "no-store") (lit := 13) (by decide) d_VS_mayBeKept_41 ?_
  refine g_callV1 (ν := k_It_has0) ⟨w_486, w_34, w_489, by decide, by decide, by decide +kernel⟩ w_487 w_488 (c_It_has0 Γ (b + 21) (13) (b + 22) (e)  hw4_4) d_VS_mayBeKept_44 hw4_4 rfl rfl ⟨⟨by decide, by decide⟩, ⟨by decide, by decide⟩⟩ (Nat.le_of_ble_eq_true rfl) (fun v5 M5 n5 hQ5 hn5 hd5 => ?_)
  obtain ⟨rfl, hf5, rfl⟩ := hQ5
  refine g_if_eq (tgt := 52) d_VS_mayBeKept_47 (by decide) (fun _ => ?_) (fun h6 => False.elim (by omega))
  refine g_aload_n d_VS_mayBeKept_52 rfl ?_
  refine g_get fa_VS_178 d_VS_mayBeKept_53 ((hf5 (t) ).trans ((hf4 (t) (by omega) (by omega) (by omega) (by omega) (by omega)).trans ((hf2 (t) ).trans p8))) rfl ?_
  refine g_if_gt (tgt := 69) d_VS_mayBeKept_56 (by decide) (fun h7 => False.elim (by omega)) (fun _ => ?_)
  refine g_aload_n d_VS_mayBeKept_59 rfl ?_
  refine g_get fa_VS_149 d_VS_mayBeKept_60 ((hf5 (t) ).trans ((hf4 (t) (by omega) (by omega) (by omega) (by omega) (by omega)).trans ((hf2 (t) ).trans p8))) rfl ?_
  refine g_get fa_VS_59 d_VS_mayBeKept_63 ((hf5 (t + 1) ).trans ((hf4 (t + 1) (by omega) (by omega) (by omega) (by omega) (by omega)).trans ((hf2 (t + 1) ).trans p9))) rfl ?_
  refine g_if_le (tgt := 73) d_VS_mayBeKept_66 (by decide) (fun _ => ?_) (fun h8 => False.elim (by omega))
  refine g_iconst d_VS_mayBeKept_73 ?_
  refine g_zret (ty := .boolean) (by first | rfl | exact nar_char (by omega)) d_VS_mayBeKept_74 rfl ?_ (by decide) (by decide)
  exact ⟨rfl, fun q e0 e1 e2 e3 e4 => ((hf5 q ).trans ((hf4 q (by omega) (by omega) (by omega) (by omega) (by omega)).trans ((hf2 q ).trans rfl))), zs4, fs4, rfl, hb4_zs4_0, hb4_zs4_1, ((hf5 (b + 17) ).trans hw4_0), ((hf5 (b + 18) ).trans hw4_1), ((hf5 (b + 19) ).trans hw4_2), ((hf5 (b + 22) ).trans hw4_3), ((hf5 (b + 21) ).trans hw4_4)⟩
def k_VS_keep : MS := ("VaryStore", b_VS_keep, 3, (some .boolean), "keep", { frames := 8, cells := 14, slots := 1383, locals := 175 }, [])
set_option maxRecDepth 100000 in
set_option maxHeartbeats 4000000 in
theorem c_VS_keep (Γ : GE) (b : Nat) (fp : Int) (tm : Int) (path : Int) (ln : Int) (zd : Int) (z : Int) (w : Int) (cc : Int) (zz : Int) (u : Int) (f1 : Nat → Int32) (f2 : Nat → Int32) (f : Nat → Int32) (fv : Nat → Int32) (fr : Nat → Int32) (fa : Nat → Int32) (fb : Nat → Int32) (fc : Nat → Int32) (y : Nat) (e : Nat) {M : HM} {n : Nat} (pa : -2147483648 ≤ path) (pb : path < 2147483648) (hbn : b + 33 ≤ n) (p0 : M (b) = some (.inr (0, [.ref (b + 1), .ref (b + 3), .ref (b + 5), .ref (b + 11), .int (iI (fp)), .int (iI (tm)), .ref (b + 17), .ref (b + 19), .ref (b + 21), .ref (b + 25), .ref (b + 29)]))) (p1 : M (b + 1) = some (.inr (2, [.ref (b + 2), .int (iI (0))]))) (p2 : M (b + 1 + 1) = some (.inl (Γ.2.2.1 0, 300, .inl (f1)))) (p3 : M (b + 11) = some (.inr (4, [.ref (b + 12), .ref (b + 14), .ref (b + 15), .ref (b + 16), .int (iI (ln))]))) (p4 : M (b + 12) = some (.inr (2, [.ref (b + 13), .int (iI (zd))]))) (p5 : M (b + 12 + 1) = some (.inl (Γ.2.2.1 0, 300, .inl (f2)))) (p6 : M (b + 5) = some (.inr (4, [.ref (b + 6), .ref (b + 8), .ref (b + 9), .ref (b + 10), .int (iI (0))]))) (p7 : M (b + 6) = some (.inr (2, [.ref (b + 7), .int (iI (0))]))) (p8 : M (b + 6 + 1) = some (.inl (Γ.2.2.1 0, 300, .inl (fr)))) (p9 : M (b + 5 + 3) = some (.inl (Γ.2.2.1 1, 100, .inl (fa)))) (p10 : M (b + 5 + 4) = some (.inl (Γ.2.2.1 1, 100, .inl (fb)))) (p11 : M (b + 5 + 5) = some (.inl (Γ.2.2.1 1, 100, .inl (fc)))) (p12 : M (b + 17) = some (.inr (2, [.ref (b + 18), .int (iI (z))]))) (p13 : M (b + 17 + 1) = some (.inl (Γ.2.2.1 0, 300, .inl (f)))) (p14 : M (b + 19) = some (.inr (2, [.ref (b + 20), .int (iI (w))]))) (p15 : M (b + 19 + 1) = some (.inl (Γ.2.2.1 0, 300, .inl (fv)))) (p16 : M (b + 21) = some (.inr (1, [.ref (b + 22), .ref (e), .int (iI (cc))]))) (p17 : M (b + 22) = some (.inr (2, [.ref (y), .int (iI (zz))]))) (p18 : M (b + 3) = some (.inr (3, [.ref (b + 4), .int (iI (0)), .int (iI (u))]))) (p19 : M (b + 4) = some (.inl (Γ.2.2.1 2, 25, .inr (.inr (.inr (.inr (fun _ => none))))))) : CX Γ k_VS_keep y_VS_keep [.ref (b), .int (iI (path))] M (n) (fun v M' n' => n + 13 = n' ∧ (∀ q, q ≠ b + 13 → q ≠ b + 12 → q ≠ b + 11 → q ≠ b → q ≠ b + 1 → q ≠ n → q ≠ n + 1 → q ≠ n + 2 → q ≠ n + 3 → q ≠ n + 4 → q ≠ n + 5 → q ≠ n + 6 → q ≠ n + 7 → q ≠ n + 8 → q ≠ n + 9 → q ≠ n + 10 → q ≠ n + 11 → q ≠ n + 12 → q ≠ b + 4 → q ≠ b + 17 → q ≠ b + 18 → q ≠ b + 19 → q ≠ b + 22 → q ≠ b + 21 → M' q = M q) ∧ ∃ (zs9 : Int) (fs9 : Nat → Int32), v = some (.int (iI (0))) ∧ 0 ≤ zs9 ∧ zs9 ≤ 40 ∧ M' (b + 13) = some (.inl (Γ.2.2.1 0, 300, .inl (f2))) ∧ M' (b + 12) = some (.inr (2, [.ref (b + 13), .int (iI (0))])) ∧ M' (b + 11) = some (.inr (4, [.ref (b + 12), .ref (b + 14), .ref (b + 15), .ref (b + 16), .int (iI (0))])) ∧ M' (b) = some (.inr (0, [.ref (b + 1), .ref (b + 3), .ref (b + 5), .ref (b + 11), .int (iI ((-1))), .int (iI (tm)), .ref (b + 17), .ref (b + 19), .ref (b + 21), .ref (b + 25), .ref (b + 29)])) ∧ M' (b + 1) = some (.inr (2, [.ref (b + 2), .int (iI (0))])) ∧ M' (n) = some (.inr (5, [.ref (n + 1), .ref (n + 3), .ref (n + 7), .int (iI (path)), .int (iI ((-2))), .int (iI ((-2))), .int (iI (0)), .int (iI (0)), .int (iI (0)), .int (iI (0)), .int (iI ((max (0) ((-1))))), .int (iI (tm)), .int (iI (0))])) ∧ M' (n + 1) = some (.inr (2, [.ref (n + 2), .int (iI (0))])) ∧ M' (n + 2) = some (.inl (Γ.2.2.1 0, 300, .inl ((fun _ => iI 0)))) ∧ M' (n + 3) = some (.inr (1, [.ref (n + 4), .ref (n + 6), .int (iI (0))])) ∧ M' (n + 4) = some (.inr (2, [.ref (n + 5), .int (iI (0))])) ∧ M' (n + 5) = some (.inl (Γ.2.2.1 0, 300, .inl (fun _ => iI 0))) ∧ M' (n + 6) = some (.inl (Γ.2.2.1 1, 150, .inl (fun _ => iI 0))) ∧ M' (n + 7) = some (.inr (4, [.ref (n + 8), .ref (n + 10), .ref (n + 11), .ref (n + 12), .int (iI (0))])) ∧ M' (n + 8) = some (.inr (2, [.ref (n + 9), .int (iI (0))])) ∧ M' (n + 9) = some (.inl (Γ.2.2.1 0, 300, .inl ((fun _ => iI 0)))) ∧ M' (n + 10) = some (.inl (Γ.2.2.1 1, 100, .inl ((fun _ => iI 0)))) ∧ M' (n + 11) = some (.inl (Γ.2.2.1 1, 100, .inl ((fun _ => iI 0)))) ∧ M' (n + 12) = some (.inl (Γ.2.2.1 1, 100, .inl ((fun _ => iI 0)))) ∧ M' (b + 4) = some (.inl (Γ.2.2.1 2, 25, .inr (.inr (.inr (.inr (va_up (fun _ => none) (24 : Int).toNat (some (n)))))))) ∧ M' (b + 17) = some (.inr (2, [.ref (b + 18), .int (iI (zs9))])) ∧ M' (b + 18) = some (.inl (Γ.2.2.1 0, 300, .inl (fs9))) ∧ M' (b + 19) = some (.inr (2, [.ref (b + 20), .int (iI (0))])) ∧ M' (b + 22) = some (.inr (2, [.ref (y), .int (iI (0))])) ∧ M' (b + 21) = some (.inr (1, [.ref (b + 22), .ref (e), .int (iI (0))])) ∧ (0 ≤ path ∧ path < 16)) (fun C M' n' => C = "java/lang/IllegalArgumentException" ∧ n ≤ n' ∧ (∀ q, q ≠ (b + 11) + 2 → q ≠ (b + 11) + 1 → q ≠ (b + 11) → q ≠ b → q ≠ b + 1 → M' q = M q) ∧ (¬ (0 ≤ path ∧ path < 16))) := by
  refine CX.of (by decide) rfl rfl 1 rfl (Nat.le_of_ble_eq_true rfl) rfl ?_
  refine g_aload_n d_VS_keep_0 rfl ?_
  refine g_iload_n d_VS_keep_1 rfl ?_
  refine g_callVX1 (ν := k_VS_readTape) ⟨w_218, w_30, w_221, by decide, by decide, by decide +kernel⟩ w_220 w_1 (c_VS_readTape Γ (b) (b + 5) (b + 11) (fp) (tm) (path) (f1) (f2) (ln) (zd) (by omega) (by omega) (by omega) (by omega) p0 p1 p2 p3 p4 p5) d_VS_keep_2 p0 rfl rfl ⟨⟨by decide, by decide⟩, ⟨by decide, by decide⟩⟩ (Nat.le_of_ble_eq_true rfl) rfl (fun C9 M9 n9 h9 _ _ => h9) (fun v1 M1 n1 hQ1 hn1 hd1 => ?_)
  obtain ⟨rfl, hf1, rfl, hw1_0, hw1_1, hw1_2, hw1_3, hw1_4, hc1⟩ := hQ1
  refine g_aload_n d_VS_keep_5 rfl ?_
  refine g_get fa_VS_19 d_VS_keep_6 hw1_3 rfl ?_
  refine g_callV0 (ν := k_Sh_spare0) ⟨w_510, w_32, w_513, by decide, by decide, by decide +kernel⟩ w_511 w_512 (c_Sh_spare0 Γ (b + 3) (0) (u) (by omega) ((hf1 ((b + 3)) (by omega) (by omega) (by omega) (by omega) (by omega)).trans p18) ((hf1 ((b + 3) + 1) (by omega) (by omega) (by omega) (by omega) (by omega)).trans p19)) d_VS_keep_9 ((hf1 (b + 3) (by omega) (by omega) (by omega) (by omega) (by omega)).trans p18) rfl rfl ⟨⟨by decide, by decide⟩, ⟨by decide, by decide⟩⟩ (Nat.le_of_ble_eq_true rfl) (fun v2 M2 n2 hQ2 hn2 hd2 => ?_)
  obtain ⟨rfl, hf2, rfl, hw2_0, hw2_1, hw2_2, hw2_3, hw2_4, hw2_5, hw2_6, hw2_7, hw2_8, hw2_9, hw2_10, hw2_11, hw2_12, hw2_13⟩ := hQ2
  refine g_astore_n d_VS_keep_12 (by decide) rfl ?_
  refine g_aload_n d_VS_keep_13 rfl ?_
  refine g_aload_n d_VS_keep_14 rfl ?_
  refine g_iload_n d_VS_keep_15 rfl ?_
  refine g_callV2 (ν := k_VS_describe0) ⟨w_577, w_30, w_580, by decide, by decide, by decide +kernel⟩ w_579 w_12 (c_VS_describe0 Γ (b) ((-1)) (tm) (n) (path) (0) ((-2)) ((-2)) (0) (0) (0) (0) (0) (0) (0) (z) (w) (0) (0) (0) (0) (0) (f) (fv) (fr) (fa) (fb) (fc) (fun _ => iI 0) (fun _ => iI 0) (fun _ => iI 0) (fun _ => iI 0) (fun _ => iI 0) (n + 5) (by omega) ((hf2 (b) (by omega) (by omega) (by omega) (by omega) (by omega) (by omega) (by omega) (by omega) (by omega) (by omega) (by omega) (by omega) (by omega) (by omega)).trans hw1_3) ((hf2 (b + 5) (by omega) (by omega) (by omega) (by omega) (by omega) (by omega) (by omega) (by omega) (by omega) (by omega) (by omega) (by omega) (by omega) (by omega)).trans ((hf1 (b + 5) (by omega) (by omega) (by omega) (by omega) (by omega)).trans p6)) ((hf2 (b + 6) (by omega) (by omega) (by omega) (by omega) (by omega) (by omega) (by omega) (by omega) (by omega) (by omega) (by omega) (by omega) (by omega) (by omega)).trans ((hf1 (b + 6) (by omega) (by omega) (by omega) (by omega) (by omega)).trans p7)) ((hf2 (b + 6 + 1) (by omega) (by omega) (by omega) (by omega) (by omega) (by omega) (by omega) (by omega) (by omega) (by omega) (by omega) (by omega) (by omega) (by omega)).trans ((hf1 (b + 6 + 1) (by omega) (by omega) (by omega) (by omega) (by omega)).trans p8)) ((hf2 (b + 5 + 3) (by omega) (by omega) (by omega) (by omega) (by omega) (by omega) (by omega) (by omega) (by omega) (by omega) (by omega) (by omega) (by omega) (by omega)).trans ((hf1 (b + 5 + 3) (by omega) (by omega) (by omega) (by omega) (by omega)).trans p9)) ((hf2 (b + 5 + 4) (by omega) (by omega) (by omega) (by omega) (by omega) (by omega) (by omega) (by omega) (by omega) (by omega) (by omega) (by omega) (by omega) (by omega)).trans ((hf1 (b + 5 + 4) (by omega) (by omega) (by omega) (by omega) (by omega)).trans p10)) ((hf2 (b + 5 + 5) (by omega) (by omega) (by omega) (by omega) (by omega) (by omega) (by omega) (by omega) (by omega) (by omega) (by omega) (by omega) (by omega) (by omega)).trans ((hf1 (b + 5 + 5) (by omega) (by omega) (by omega) (by omega) (by omega)).trans p11)) ((hf2 (b + 11) (by omega) (by omega) (by omega) (by omega) (by omega) (by omega) (by omega) (by omega) (by omega) (by omega) (by omega) (by omega) (by omega) (by omega)).trans hw1_2) ((hf2 (b + 17) (by omega) (by omega) (by omega) (by omega) (by omega) (by omega) (by omega) (by omega) (by omega) (by omega) (by omega) (by omega) (by omega) (by omega)).trans ((hf1 (b + 17) (by omega) (by omega) (by omega) (by omega) (by omega)).trans p12)) ((hf2 (b + 17 + 1) (by omega) (by omega) (by omega) (by omega) (by omega) (by omega) (by omega) (by omega) (by omega) (by omega) (by omega) (by omega) (by omega) (by omega)).trans ((hf1 (b + 17 + 1) (by omega) (by omega) (by omega) (by omega) (by omega)).trans p13)) ((hf2 (b + 19) (by omega) (by omega) (by omega) (by omega) (by omega) (by omega) (by omega) (by omega) (by omega) (by omega) (by omega) (by omega) (by omega) (by omega)).trans ((hf1 (b + 19) (by omega) (by omega) (by omega) (by omega) (by omega)).trans p14)) ((hf2 (b + 19 + 1) (by omega) (by omega) (by omega) (by omega) (by omega) (by omega) (by omega) (by omega) (by omega) (by omega) (by omega) (by omega) (by omega) (by omega)).trans ((hf1 (b + 19 + 1) (by omega) (by omega) (by omega) (by omega) (by omega)).trans p15)) hw2_0 hw2_1 hw2_2 hw2_3 hw2_4 hw2_7 hw2_8 hw2_9 hw2_10 hw2_11 hw2_12) d_VS_keep_16 ((hf2 (b) (by omega) (by omega) (by omega) (by omega) (by omega) (by omega) (by omega) (by omega) (by omega) (by omega) (by omega) (by omega) (by omega) (by omega)).trans hw1_3) rfl rfl ⟨⟨by decide, by decide⟩, ⟨by decide, by decide⟩⟩ (Nat.le_of_ble_eq_true rfl) (fun v3 M3 n3 hQ3 hn3 hd3 => ?_)
  obtain ⟨rfl, hf3, zs3, fs3, rfl, hb3_zs3_0, hb3_zs3_1, hw3_0, hw3_1, hw3_2, hw3_3, hw3_4, hw3_5, hw3_6, hw3_7, hw3_8, hw3_9, hw3_10, hw3_11, hw3_12, hw3_13⟩ := hQ3
  refine g_aload_n d_VS_keep_19 rfl ?_
  refine g_aload_n d_VS_keep_20 rfl ?_
  refine g_get fa_VS_30 d_VS_keep_21 ((hf3 (b) (by omega) (by omega) (by omega) (by omega) (by omega) (by omega) (by omega) (by omega) (by omega) (by omega) (by omega) (by omega) (by omega) (by omega)).trans ((hf2 (b) (by omega) (by omega) (by omega) (by omega) (by omega) (by omega) (by omega) (by omega) (by omega) (by omega) (by omega) (by omega) (by omega) (by omega)).trans hw1_3)) rfl ?_
  refine g_ldcS (text := "cache-control") (lit := 0) (by decide) d_VS_keep_24 ?_
  refine g_aload_n d_VS_keep_26 rfl ?_
  refine g_get fa_VS_49 d_VS_keep_27 ((hf3 (b) (by omega) (by omega) (by omega) (by omega) (by omega) (by omega) (by omega) (by omega) (by omega) (by omega) (by omega) (by omega) (by omega) (by omega)).trans ((hf2 (b) (by omega) (by omega) (by omega) (by omega) (by omega) (by omega) (by omega) (by omega) (by omega) (by omega) (by omega) (by omega) (by omega) (by omega)).trans hw1_3)) rfl ?_
  refine g_callV3 (ν := k_VS_cutList0) ⟨w_330, w_30, w_333, by decide, by decide, by decide +kernel⟩ w_332 w_4 (c_VS_cutList0 Γ (b) (b + 5) (b + 11) ((-1)) (tm) (b + 11) (0) (b + 21) (zs3) (fs3) (0) (b + 20) (cc) (zz) (y) (e) (by first | omega | decide | (have h9 := lenLit_le 0; omega)) (by first | omega | decide | (have h9 := lenLit_le 0; omega)) (by first | omega | decide | (have h9 := lenLit_le 0; omega)) ((hf3 (b) (by omega) (by omega) (by omega) (by omega) (by omega) (by omega) (by omega) (by omega) (by omega) (by omega) (by omega) (by omega) (by omega) (by omega)).trans ((hf2 (b) (by omega) (by omega) (by omega) (by omega) (by omega) (by omega) (by omega) (by omega) (by omega) (by omega) (by omega) (by omega) (by omega) (by omega)).trans hw1_3)) hw3_7 hw3_8 hw3_9 ((hf3 ((b + 11)) (by omega) (by omega) (by omega) (by omega) (by omega) (by omega) (by omega) (by omega) (by omega) (by omega) (by omega) (by omega) (by omega) (by omega)).trans ((hf2 ((b + 11)) (by omega) (by omega) (by omega) (by omega) (by omega) (by omega) (by omega) (by omega) (by omega) (by omega) (by omega) (by omega) (by omega) (by omega)).trans hw1_2)) ((hf3 ((b + 21)) (by omega) (by omega) (by omega) (by omega) (by omega) (by omega) (by omega) (by omega) (by omega) (by omega) (by omega) (by omega) (by omega) (by omega)).trans ((hf2 ((b + 21)) (by omega) (by omega) (by omega) (by omega) (by omega) (by omega) (by omega) (by omega) (by omega) (by omega) (by omega) (by omega) (by omega) (by omega)).trans ((hf1 ((b + 21)) (by omega) (by omega) (by omega) (by omega) (by omega)).trans p16))) ((hf3 ((b + 21) + 1) (by omega) (by omega) (by omega) (by omega) (by omega) (by omega) (by omega) (by omega) (by omega) (by omega) (by omega) (by omega) (by omega) (by omega)).trans ((hf2 ((b + 21) + 1) (by omega) (by omega) (by omega) (by omega) (by omega) (by omega) (by omega) (by omega) (by omega) (by omega) (by omega) (by omega) (by omega) (by omega)).trans ((hf1 ((b + 21) + 1) (by omega) (by omega) (by omega) (by omega) (by omega)).trans p17)))) d_VS_keep_30 ((hf3 (b) (by omega) (by omega) (by omega) (by omega) (by omega) (by omega) (by omega) (by omega) (by omega) (by omega) (by omega) (by omega) (by omega) (by omega)).trans ((hf2 (b) (by omega) (by omega) (by omega) (by omega) (by omega) (by omega) (by omega) (by omega) (by omega) (by omega) (by omega) (by omega) (by omega) (by omega)).trans hw1_3)) rfl rfl ⟨⟨by decide, by decide⟩, ⟨by decide, by decide⟩⟩ (Nat.le_of_ble_eq_true rfl) (fun v4 M4 n4 hQ4 hn4 hd4 => ?_)
  obtain ⟨rfl, hf4, zs4, fs4, rfl, hb4_zs4_0, hb4_zs4_1, hw4_0, hw4_1, hw4_2, hw4_3, hw4_4⟩ := hQ4
  refine g_pop d_VS_keep_33 rfl ?_
  refine g_aload_n d_VS_keep_34 rfl ?_
  refine g_aload_n d_VS_keep_35 rfl ?_
  refine g_get fa_VS_49 d_VS_keep_36 ((hf4 (b) (by omega) (by omega) (by omega) (by omega) (by omega)).trans ((hf3 (b) (by omega) (by omega) (by omega) (by omega) (by omega) (by omega) (by omega) (by omega) (by omega) (by omega) (by omega) (by omega) (by omega) (by omega)).trans ((hf2 (b) (by omega) (by omega) (by omega) (by omega) (by omega) (by omega) (by omega) (by omega) (by omega) (by omega) (by omega) (by omega) (by omega) (by omega)).trans hw1_3))) rfl ?_
  refine g_callV1 (ν := k_Th_obey0) ⟨w_594, w_47, w_597, by decide, by decide, by decide +kernel⟩ w_595 w_596 (c_Th_obey0 Γ (n) (b + 21) (path) (((-2))) (((-2))) (0) (0) (0) (0) (0) (0) (0) (b + 22) (e) (by omega) ((hf4 (n) (by omega) (by omega) (by omega) (by omega) (by omega)).trans hw3_0) hw4_4) d_VS_keep_39 ((hf4 (n) (by omega) (by omega) (by omega) (by omega) (by omega)).trans hw3_0) rfl rfl ⟨⟨by decide, by decide⟩, ⟨by decide, by decide⟩⟩ (Nat.le_of_ble_eq_true rfl) (fun v5 M5 n5 hQ5 hn5 hd5 => ?_)
  obtain ⟨rfl, hf5, rfl, hw5_0⟩ := hQ5
  refine g_aload_n d_VS_keep_42 rfl ?_
  refine g_aload_n d_VS_keep_43 rfl ?_
  refine g_callV1 (ν := k_VS_startLife0) ⟨w_607, w_30, w_610, by decide, by decide, by decide +kernel⟩ w_609 w_13 (c_VS_startLife0 Γ (b) ((-1)) (tm) (n) (path) (0) (0) (0) (0) (zs4) (0) (fs4) (fv) (by omega) ((hf5 (b) (by omega)).trans ((hf4 (b) (by omega) (by omega) (by omega) (by omega) (by omega)).trans ((hf3 (b) (by omega) (by omega) (by omega) (by omega) (by omega) (by omega) (by omega) (by omega) (by omega) (by omega) (by omega) (by omega) (by omega) (by omega)).trans ((hf2 (b) (by omega) (by omega) (by omega) (by omega) (by omega) (by omega) (by omega) (by omega) (by omega) (by omega) (by omega) (by omega) (by omega) (by omega)).trans hw1_3)))) ((hf5 (b + 11) (by omega)).trans ((hf4 (b + 11) (by omega) (by omega) (by omega) (by omega) (by omega)).trans ((hf3 (b + 11) (by omega) (by omega) (by omega) (by omega) (by omega) (by omega) (by omega) (by omega) (by omega) (by omega) (by omega) (by omega) (by omega) (by omega)).trans ((hf2 (b + 11) (by omega) (by omega) (by omega) (by omega) (by omega) (by omega) (by omega) (by omega) (by omega) (by omega) (by omega) (by omega) (by omega) (by omega)).trans hw1_2)))) ((hf5 (b + 17) (by omega)).trans hw4_0) ((hf5 (b + 17 + 1) (by omega)).trans hw4_1) ((hf5 (b + 19) (by omega)).trans hw4_2) ((hf5 (b + 19 + 1) (by omega)).trans ((hf4 (b + 19 + 1) (by omega) (by omega) (by omega) (by omega) (by omega)).trans ((hf3 (b + 19 + 1) (by omega) (by omega) (by omega) (by omega) (by omega) (by omega) (by omega) (by omega) (by omega) (by omega) (by omega) (by omega) (by omega) (by omega)).trans ((hf2 (b + 19 + 1) (by omega) (by omega) (by omega) (by omega) (by omega) (by omega) (by omega) (by omega) (by omega) (by omega) (by omega) (by omega) (by omega) (by omega)).trans ((hf1 (b + 19 + 1) (by omega) (by omega) (by omega) (by omega) (by omega)).trans p15))))) hw5_0) d_VS_keep_44 ((hf5 (b) (by omega)).trans ((hf4 (b) (by omega) (by omega) (by omega) (by omega) (by omega)).trans ((hf3 (b) (by omega) (by omega) (by omega) (by omega) (by omega) (by omega) (by omega) (by omega) (by omega) (by omega) (by omega) (by omega) (by omega) (by omega)).trans ((hf2 (b) (by omega) (by omega) (by omega) (by omega) (by omega) (by omega) (by omega) (by omega) (by omega) (by omega) (by omega) (by omega) (by omega) (by omega)).trans hw1_3)))) rfl rfl ⟨⟨by decide, by decide⟩, ⟨by decide, by decide⟩⟩ (Nat.le_of_ble_eq_true rfl) (fun v6 M6 n6 hQ6 hn6 hd6 => ?_)
  obtain ⟨rfl, hf6, zs6, fs6, rfl, hb6_zs6_0, hb6_zs6_1, hw6_0, hw6_1, hw6_2, hw6_3⟩ := hQ6
  refine g_aload_n d_VS_keep_47 rfl ?_
  refine g_get fa_VS_19 d_VS_keep_48 ((hf6 (b) (by omega) (by omega) (by omega) (by omega)).trans ((hf5 (b) (by omega)).trans ((hf4 (b) (by omega) (by omega) (by omega) (by omega) (by omega)).trans ((hf3 (b) (by omega) (by omega) (by omega) (by omega) (by omega) (by omega) (by omega) (by omega) (by omega) (by omega) (by omega) (by omega) (by omega) (by omega)).trans ((hf2 (b) (by omega) (by omega) (by omega) (by omega) (by omega) (by omega) (by omega) (by omega) (by omega) (by omega) (by omega) (by omega) (by omega) (by omega)).trans hw1_3))))) rfl ?_
  refine g_aload_n d_VS_keep_51 rfl ?_
  refine g_aload_n d_VS_keep_52 rfl ?_
  refine g_callV1 (ν := k_VS_same0) ⟨w_620, w_30, w_623, by decide, by decide, by decide +kernel⟩ w_622 w_15 (c_VS_same0 Γ (b) (b + 5) (b + 11) ((-1)) (tm) (n) (u)  ((hf6 (b) (by omega) (by omega) (by omega) (by omega)).trans ((hf5 (b) (by omega)).trans ((hf4 (b) (by omega) (by omega) (by omega) (by omega) (by omega)).trans ((hf3 (b) (by omega) (by omega) (by omega) (by omega) (by omega) (by omega) (by omega) (by omega) (by omega) (by omega) (by omega) (by omega) (by omega) (by omega)).trans ((hf2 (b) (by omega) (by omega) (by omega) (by omega) (by omega) (by omega) (by omega) (by omega) (by omega) (by omega) (by omega) (by omega) (by omega) (by omega)).trans hw1_3))))) ((hf6 (b + 3) (by omega) (by omega) (by omega) (by omega)).trans ((hf5 (b + 3) (by omega)).trans ((hf4 (b + 3) (by omega) (by omega) (by omega) (by omega) (by omega)).trans ((hf3 (b + 3) (by omega) (by omega) (by omega) (by omega) (by omega) (by omega) (by omega) (by omega) (by omega) (by omega) (by omega) (by omega) (by omega) (by omega)).trans ((hf2 (b + 3) (by omega) (by omega) (by omega) (by omega) (by omega) (by omega) (by omega) (by omega) (by omega) (by omega) (by omega) (by omega) (by omega) (by omega)).trans ((hf1 (b + 3) (by omega) (by omega) (by omega) (by omega) (by omega)).trans p18))))))) d_VS_keep_53 ((hf6 (b) (by omega) (by omega) (by omega) (by omega)).trans ((hf5 (b) (by omega)).trans ((hf4 (b) (by omega) (by omega) (by omega) (by omega) (by omega)).trans ((hf3 (b) (by omega) (by omega) (by omega) (by omega) (by omega) (by omega) (by omega) (by omega) (by omega) (by omega) (by omega) (by omega) (by omega) (by omega)).trans ((hf2 (b) (by omega) (by omega) (by omega) (by omega) (by omega) (by omega) (by omega) (by omega) (by omega) (by omega) (by omega) (by omega) (by omega) (by omega)).trans hw1_3))))) rfl rfl ⟨⟨by decide, by decide⟩, ⟨by decide, by decide⟩⟩ (Nat.le_of_ble_eq_true rfl) (fun v7 M7 n7 hQ7 hn7 hd7 => ?_)
  obtain ⟨rfl, hf7, rfl⟩ := hQ7
  refine g_callV1 (ν := k_Sh_drop0) ⟨w_198, w_32, w_201, by decide, by decide, by decide +kernel⟩ w_199 w_200 (c_Sh_drop0 Γ (b + 3)  ) d_VS_keep_56 ((hf7 (b + 3) ).trans ((hf6 (b + 3) (by omega) (by omega) (by omega) (by omega)).trans ((hf5 (b + 3) (by omega)).trans ((hf4 (b + 3) (by omega) (by omega) (by omega) (by omega) (by omega)).trans ((hf3 (b + 3) (by omega) (by omega) (by omega) (by omega) (by omega) (by omega) (by omega) (by omega) (by omega) (by omega) (by omega) (by omega) (by omega) (by omega)).trans ((hf2 (b + 3) (by omega) (by omega) (by omega) (by omega) (by omega) (by omega) (by omega) (by omega) (by omega) (by omega) (by omega) (by omega) (by omega) (by omega)).trans ((hf1 (b + 3) (by omega) (by omega) (by omega) (by omega) (by omega)).trans p18))))))) rfl rfl ⟨⟨by decide, by decide⟩, ⟨by decide, by decide⟩⟩ (Nat.le_of_ble_eq_true rfl) (fun v8 M8 n8 hQ8 hn8 hd8 => ?_)
  obtain ⟨rfl, hf8, rfl⟩ := hQ8
  refine g_aload_n d_VS_keep_59 rfl ?_
  refine g_aload_n d_VS_keep_60 rfl ?_
  refine g_callV1 (ν := k_VS_mayBeKept0) ⟨w_624, w_30, w_627, by decide, by decide, by decide +kernel⟩ w_626 w_16 (c_VS_mayBeKept0 Γ (b) ((-1)) (tm) (n) (path) ((max (0) ((-1)))) (tm) (0) (zs6) (0) (0) (0) (fs6) (fv) (y) (e) (n + 2) (n + 4) (n + 6) (by omega) ((hf8 (b) ).trans ((hf7 (b) ).trans ((hf6 (b) (by omega) (by omega) (by omega) (by omega)).trans ((hf5 (b) (by omega)).trans ((hf4 (b) (by omega) (by omega) (by omega) (by omega) (by omega)).trans ((hf3 (b) (by omega) (by omega) (by omega) (by omega) (by omega) (by omega) (by omega) (by omega) (by omega) (by omega) (by omega) (by omega) (by omega) (by omega)).trans ((hf2 (b) (by omega) (by omega) (by omega) (by omega) (by omega) (by omega) (by omega) (by omega) (by omega) (by omega) (by omega) (by omega) (by omega) (by omega)).trans hw1_3))))))) ((hf8 (b + 5) ).trans ((hf7 (b + 5) ).trans ((hf6 (b + 5) (by omega) (by omega) (by omega) (by omega)).trans ((hf5 (b + 5) (by omega)).trans ((hf4 (b + 5) (by omega) (by omega) (by omega) (by omega) (by omega)).trans ((hf3 (b + 5) (by omega) (by omega) (by omega) (by omega) (by omega) (by omega) (by omega) (by omega) (by omega) (by omega) (by omega) (by omega) (by omega) (by omega)).trans ((hf2 (b + 5) (by omega) (by omega) (by omega) (by omega) (by omega) (by omega) (by omega) (by omega) (by omega) (by omega) (by omega) (by omega) (by omega) (by omega)).trans ((hf1 (b + 5) (by omega) (by omega) (by omega) (by omega) (by omega)).trans p6)))))))) ((hf8 (b + 17) ).trans ((hf7 (b + 17) ).trans hw6_0)) ((hf8 (b + 17 + 1) ).trans ((hf7 (b + 17 + 1) ).trans hw6_1)) ((hf8 (b + 19) ).trans ((hf7 (b + 19) ).trans hw6_2)) ((hf8 (b + 19 + 1) ).trans ((hf7 (b + 19 + 1) ).trans ((hf6 (b + 19 + 1) (by omega) (by omega) (by omega) (by omega)).trans ((hf5 (b + 19 + 1) (by omega)).trans ((hf4 (b + 19 + 1) (by omega) (by omega) (by omega) (by omega) (by omega)).trans ((hf3 (b + 19 + 1) (by omega) (by omega) (by omega) (by omega) (by omega) (by omega) (by omega) (by omega) (by omega) (by omega) (by omega) (by omega) (by omega) (by omega)).trans ((hf2 (b + 19 + 1) (by omega) (by omega) (by omega) (by omega) (by omega) (by omega) (by omega) (by omega) (by omega) (by omega) (by omega) (by omega) (by omega) (by omega)).trans ((hf1 (b + 19 + 1) (by omega) (by omega) (by omega) (by omega) (by omega)).trans p15)))))))) ((hf8 (b + 21) ).trans ((hf7 (b + 21) ).trans ((hf6 (b + 21) (by omega) (by omega) (by omega) (by omega)).trans ((hf5 (b + 21) (by omega)).trans hw4_4)))) ((hf8 (b + 22) ).trans ((hf7 (b + 22) ).trans ((hf6 (b + 22) (by omega) (by omega) (by omega) (by omega)).trans ((hf5 (b + 22) (by omega)).trans hw4_3)))) ((hf8 (n) ).trans ((hf7 (n) ).trans hw6_3)) ((hf8 (n + 1) ).trans ((hf7 (n + 1) ).trans ((hf6 (n + 1) (by omega) (by omega) (by omega) (by omega)).trans ((hf5 (n + 1) (by omega)).trans ((hf4 (n + 1) (by omega) (by omega) (by omega) (by omega) (by omega)).trans hw3_11))))) ((hf8 (n + 3) ).trans ((hf7 (n + 3) ).trans ((hf6 (n + 3) (by omega) (by omega) (by omega) (by omega)).trans ((hf5 (n + 3) (by omega)).trans ((hf4 (n + 3) (by omega) (by omega) (by omega) (by omega) (by omega)).trans hw3_13)))))) d_VS_keep_61 ((hf8 (b) ).trans ((hf7 (b) ).trans ((hf6 (b) (by omega) (by omega) (by omega) (by omega)).trans ((hf5 (b) (by omega)).trans ((hf4 (b) (by omega) (by omega) (by omega) (by omega) (by omega)).trans ((hf3 (b) (by omega) (by omega) (by omega) (by omega) (by omega) (by omega) (by omega) (by omega) (by omega) (by omega) (by omega) (by omega) (by omega) (by omega)).trans ((hf2 (b) (by omega) (by omega) (by omega) (by omega) (by omega) (by omega) (by omega) (by omega) (by omega) (by omega) (by omega) (by omega) (by omega) (by omega)).trans hw1_3))))))) rfl rfl ⟨⟨by decide, by decide⟩, ⟨by decide, by decide⟩⟩ (Nat.le_of_ble_eq_true rfl) (fun v9 M9 n9 hQ9 hn9 hd9 => ?_)
  obtain ⟨rfl, hf9, zs9, fs9, rfl, hb9_zs9_0, hb9_zs9_1, hw9_0, hw9_1, hw9_2, hw9_3, hw9_4⟩ := hQ9
  refine g_if_ne (tgt := 69) d_VS_keep_64 (by decide) (fun h10 => False.elim (by omega)) (fun _ => ?_)
  refine g_iconst d_VS_keep_67 ?_
  refine g_x ?_
  refine g_zret (ty := .boolean) (by first | rfl | decide) d_VS_keep_68 rfl ?_ (by decide) (by decide)
  exact ⟨rfl, fun q e0 e1 e2 e3 e4 e5 e6 e7 e8 e9 e10 e11 e12 e13 e14 e15 e16 e17 e18 e19 e20 e21 e22 e23 => ((hf9 q (by omega) (by omega) (by omega) (by omega) (by omega)).trans ((hf8 q ).trans ((hf7 q ).trans ((hf6 q (by omega) (by omega) (by omega) (by omega)).trans ((hf5 q (by omega)).trans ((hf4 q (by omega) (by omega) (by omega) (by omega) (by omega)).trans ((hf3 q (by omega) (by omega) (by omega) (by omega) (by omega) (by omega) (by omega) (by omega) (by omega) (by omega) (by omega) (by omega) (by omega) (by omega)).trans ((hf2 q (by omega) (by omega) (by omega) (by omega) (by omega) (by omega) (by omega) (by omega) (by omega) (by omega) (by omega) (by omega) (by omega) (by omega)).trans ((hf1 q (by omega) (by omega) (by omega) (by omega) (by omega)).trans rfl))))))))), zs9, fs9, rfl, hb9_zs9_0, hb9_zs9_1, ((hf9 (b + 13) (by omega) (by omega) (by omega) (by omega) (by omega)).trans ((hf8 (b + 13) ).trans ((hf7 (b + 13) ).trans ((hf6 (b + 13) (by omega) (by omega) (by omega) (by omega)).trans ((hf5 (b + 13) (by omega)).trans ((hf4 (b + 13) (by omega) (by omega) (by omega) (by omega) (by omega)).trans ((hf3 (b + 13) (by omega) (by omega) (by omega) (by omega) (by omega) (by omega) (by omega) (by omega) (by omega) (by omega) (by omega) (by omega) (by omega) (by omega)).trans ((hf2 (b + 13) (by omega) (by omega) (by omega) (by omega) (by omega) (by omega) (by omega) (by omega) (by omega) (by omega) (by omega) (by omega) (by omega) (by omega)).trans hw1_0)))))))), ((hf9 (b + 12) (by omega) (by omega) (by omega) (by omega) (by omega)).trans ((hf8 (b + 12) ).trans ((hf7 (b + 12) ).trans ((hf6 (b + 12) (by omega) (by omega) (by omega) (by omega)).trans ((hf5 (b + 12) (by omega)).trans ((hf4 (b + 12) (by omega) (by omega) (by omega) (by omega) (by omega)).trans ((hf3 (b + 12) (by omega) (by omega) (by omega) (by omega) (by omega) (by omega) (by omega) (by omega) (by omega) (by omega) (by omega) (by omega) (by omega) (by omega)).trans ((hf2 (b + 12) (by omega) (by omega) (by omega) (by omega) (by omega) (by omega) (by omega) (by omega) (by omega) (by omega) (by omega) (by omega) (by omega) (by omega)).trans hw1_1)))))))), ((hf9 (b + 11) (by omega) (by omega) (by omega) (by omega) (by omega)).trans ((hf8 (b + 11) ).trans ((hf7 (b + 11) ).trans ((hf6 (b + 11) (by omega) (by omega) (by omega) (by omega)).trans ((hf5 (b + 11) (by omega)).trans ((hf4 (b + 11) (by omega) (by omega) (by omega) (by omega) (by omega)).trans ((hf3 (b + 11) (by omega) (by omega) (by omega) (by omega) (by omega) (by omega) (by omega) (by omega) (by omega) (by omega) (by omega) (by omega) (by omega) (by omega)).trans ((hf2 (b + 11) (by omega) (by omega) (by omega) (by omega) (by omega) (by omega) (by omega) (by omega) (by omega) (by omega) (by omega) (by omega) (by omega) (by omega)).trans hw1_2)))))))), ((hf9 (b) (by omega) (by omega) (by omega) (by omega) (by omega)).trans ((hf8 (b) ).trans ((hf7 (b) ).trans ((hf6 (b) (by omega) (by omega) (by omega) (by omega)).trans ((hf5 (b) (by omega)).trans ((hf4 (b) (by omega) (by omega) (by omega) (by omega) (by omega)).trans ((hf3 (b) (by omega) (by omega) (by omega) (by omega) (by omega) (by omega) (by omega) (by omega) (by omega) (by omega) (by omega) (by omega) (by omega) (by omega)).trans ((hf2 (b) (by omega) (by omega) (by omega) (by omega) (by omega) (by omega) (by omega) (by omega) (by omega) (by omega) (by omega) (by omega) (by omega) (by omega)).trans hw1_3)))))))), ((hf9 (b + 1) (by omega) (by omega) (by omega) (by omega) (by omega)).trans ((hf8 (b + 1) ).trans ((hf7 (b + 1) ).trans ((hf6 (b + 1) (by omega) (by omega) (by omega) (by omega)).trans ((hf5 (b + 1) (by omega)).trans ((hf4 (b + 1) (by omega) (by omega) (by omega) (by omega) (by omega)).trans ((hf3 (b + 1) (by omega) (by omega) (by omega) (by omega) (by omega) (by omega) (by omega) (by omega) (by omega) (by omega) (by omega) (by omega) (by omega) (by omega)).trans ((hf2 (b + 1) (by omega) (by omega) (by omega) (by omega) (by omega) (by omega) (by omega) (by omega) (by omega) (by omega) (by omega) (by omega) (by omega) (by omega)).trans hw1_4)))))))), ((hf9 (n) (by omega) (by omega) (by omega) (by omega) (by omega)).trans ((hf8 (n) ).trans ((hf7 (n) ).trans hw6_3))), ((hf9 (n + 1) (by omega) (by omega) (by omega) (by omega) (by omega)).trans ((hf8 (n + 1) ).trans ((hf7 (n + 1) ).trans ((hf6 (n + 1) (by omega) (by omega) (by omega) (by omega)).trans ((hf5 (n + 1) (by omega)).trans ((hf4 (n + 1) (by omega) (by omega) (by omega) (by omega) (by omega)).trans hw3_11)))))), ((hf9 (n + 2) (by omega) (by omega) (by omega) (by omega) (by omega)).trans ((hf8 (n + 2) ).trans ((hf7 (n + 2) ).trans ((hf6 (n + 2) (by omega) (by omega) (by omega) (by omega)).trans ((hf5 (n + 2) (by omega)).trans ((hf4 (n + 2) (by omega) (by omega) (by omega) (by omega) (by omega)).trans hw3_10)))))), ((hf9 (n + 3) (by omega) (by omega) (by omega) (by omega) (by omega)).trans ((hf8 (n + 3) ).trans ((hf7 (n + 3) ).trans ((hf6 (n + 3) (by omega) (by omega) (by omega) (by omega)).trans ((hf5 (n + 3) (by omega)).trans ((hf4 (n + 3) (by omega) (by omega) (by omega) (by omega) (by omega)).trans hw3_13)))))), ((hf9 (n + 4) (by omega) (by omega) (by omega) (by omega) (by omega)).trans ((hf8 (n + 4) ).trans ((hf7 (n + 4) ).trans ((hf6 (n + 4) (by omega) (by omega) (by omega) (by omega)).trans ((hf5 (n + 4) (by omega)).trans ((hf4 (n + 4) (by omega) (by omega) (by omega) (by omega) (by omega)).trans hw3_12)))))), ((hf9 (n + 5) (by omega) (by omega) (by omega) (by omega) (by omega)).trans ((hf8 (n + 5) ).trans ((hf7 (n + 5) ).trans ((hf6 (n + 5) (by omega) (by omega) (by omega) (by omega)).trans ((hf5 (n + 5) (by omega)).trans ((hf4 (n + 5) (by omega) (by omega) (by omega) (by omega) (by omega)).trans ((hf3 (n + 5) (by omega) (by omega) (by omega) (by omega) (by omega) (by omega) (by omega) (by omega) (by omega) (by omega) (by omega) (by omega) (by omega) (by omega)).trans hw2_5))))))), ((hf9 (n + 6) (by omega) (by omega) (by omega) (by omega) (by omega)).trans ((hf8 (n + 6) ).trans ((hf7 (n + 6) ).trans ((hf6 (n + 6) (by omega) (by omega) (by omega) (by omega)).trans ((hf5 (n + 6) (by omega)).trans ((hf4 (n + 6) (by omega) (by omega) (by omega) (by omega) (by omega)).trans ((hf3 (n + 6) (by omega) (by omega) (by omega) (by omega) (by omega) (by omega) (by omega) (by omega) (by omega) (by omega) (by omega) (by omega) (by omega) (by omega)).trans hw2_6))))))), ((hf9 (n + 7) (by omega) (by omega) (by omega) (by omega) (by omega)).trans ((hf8 (n + 7) ).trans ((hf7 (n + 7) ).trans ((hf6 (n + 7) (by omega) (by omega) (by omega) (by omega)).trans ((hf5 (n + 7) (by omega)).trans ((hf4 (n + 7) (by omega) (by omega) (by omega) (by omega) (by omega)).trans hw3_6)))))), ((hf9 (n + 8) (by omega) (by omega) (by omega) (by omega) (by omega)).trans ((hf8 (n + 8) ).trans ((hf7 (n + 8) ).trans ((hf6 (n + 8) (by omega) (by omega) (by omega) (by omega)).trans ((hf5 (n + 8) (by omega)).trans ((hf4 (n + 8) (by omega) (by omega) (by omega) (by omega) (by omega)).trans hw3_2)))))), ((hf9 (n + 9) (by omega) (by omega) (by omega) (by omega) (by omega)).trans ((hf8 (n + 9) ).trans ((hf7 (n + 9) ).trans ((hf6 (n + 9) (by omega) (by omega) (by omega) (by omega)).trans ((hf5 (n + 9) (by omega)).trans ((hf4 (n + 9) (by omega) (by omega) (by omega) (by omega) (by omega)).trans hw3_1)))))), ((hf9 (n + 10) (by omega) (by omega) (by omega) (by omega) (by omega)).trans ((hf8 (n + 10) ).trans ((hf7 (n + 10) ).trans ((hf6 (n + 10) (by omega) (by omega) (by omega) (by omega)).trans ((hf5 (n + 10) (by omega)).trans ((hf4 (n + 10) (by omega) (by omega) (by omega) (by omega) (by omega)).trans hw3_3)))))), ((hf9 (n + 11) (by omega) (by omega) (by omega) (by omega) (by omega)).trans ((hf8 (n + 11) ).trans ((hf7 (n + 11) ).trans ((hf6 (n + 11) (by omega) (by omega) (by omega) (by omega)).trans ((hf5 (n + 11) (by omega)).trans ((hf4 (n + 11) (by omega) (by omega) (by omega) (by omega) (by omega)).trans hw3_4)))))), ((hf9 (n + 12) (by omega) (by omega) (by omega) (by omega) (by omega)).trans ((hf8 (n + 12) ).trans ((hf7 (n + 12) ).trans ((hf6 (n + 12) (by omega) (by omega) (by omega) (by omega)).trans ((hf5 (n + 12) (by omega)).trans ((hf4 (n + 12) (by omega) (by omega) (by omega) (by omega) (by omega)).trans hw3_5)))))), ((hf9 (b + 4) (by omega) (by omega) (by omega) (by omega) (by omega)).trans ((hf8 (b + 4) ).trans ((hf7 (b + 4) ).trans ((hf6 (b + 4) (by omega) (by omega) (by omega) (by omega)).trans ((hf5 (b + 4) (by omega)).trans ((hf4 (b + 4) (by omega) (by omega) (by omega) (by omega) (by omega)).trans ((hf3 (b + 4) (by omega) (by omega) (by omega) (by omega) (by omega) (by omega) (by omega) (by omega) (by omega) (by omega) (by omega) (by omega) (by omega) (by omega)).trans hw2_13))))))), hw9_0, hw9_1, hw9_2, hw9_3, hw9_4, by omega⟩
def Q_Mo_name (Γ : GE) (M : HM) (n : Nat) : Option Value → HM → Nat → Prop := fun v M' n' => n + 1 = n' ∧ (∀ q, q ≠ n → M' q = M q) ∧ ∃ (kn : Nat) (fn : Nat → Int32), v = some (.ref n) ∧ kn ≤ 16 ∧ M' (n) = some (.inl (Γ.2.2.1 1, kn, .inl (fn)))
def k_Mo_name : MS := ("VaryStoreModel", b_Mo_name, 8, (some (.array .int)), "name", { frames := 0, cells := 1, slots := 16, locals := 0 }, [])
set_option maxRecDepth 100000 in
set_option maxHeartbeats 4000000 in
theorem c_Mo_name (Γ : GE) (w1 : Int64) (w2 : Int64) {M : HM} {n : Nat}   : CT Γ k_Mo_name y_Mo_name [.long (w1), .long (w2)] M (n) (Q_Mo_name Γ M n) := by
  refine CT.of (by decide) rfl rfl 4 rfl (Nat.le_of_ble_eq_true rfl) rfl ?_
  have loop140 : ∀ (kk : Nat) (c1 : Int) (c2 : Int) (i : Int) (kz : Nat) (f1 : Nat → Int32) (M1 : HM), 0 ≤ c1 → c1 ≤ 8 → 0 ≤ c2 → c2 ≤ 8 → 0 ≤ i → i ≤ 8 → c1 + c2 = (kz : Nat) → 8 - i < (kk : Int) → (∀ q, q ≠ n → M1 q = M q) → M1 (n) = some (.inl (Γ.2.2.1 1, kz, .inl (f1))) → G Γ k_Mo_name (AA M n) (EM Γ k_Mo_name (AA M n) (Q_Mo_name Γ M n)) (0 + 1) (0 + kz) M1 (n + 1) 140 [some (.long (w1)), none, some (.long (w2)), none, some (.int (iI (c1))), some (.int (iI (c2))), some (.ref (n)), some (.int (iI (i)))] [] := by
    intro kk
    induction kk with
    | zero => intro c1 c2 i kz f1 M1 x1 x2 x3 x4 x5 x6 x7 hm; omega
    | succ kk ih =>
      intro c1 c2 i kz f1 M1 x1 x2 x3 x4 x5 x6 x7 hm hfr q0
      refine g_iload d_Mo_name_140 rfl ?_
      refine g_iload d_Mo_name_142 rfl ?_
      refine g_icmp_ge (tgt := 178) d_Mo_name_144 (by decide) (fun h1401 => ?_) (fun h1401 => ?_)
      · skip
        refine g_aload d_Mo_name_178 rfl ?_
        refine g_aret (rt := (.array .int)) (by first | exact Or.inl ⟨_, rfl⟩ | exact Or.inr ⟨_, rfl⟩) (by first | exact Or.inl rfl | exact Or.inr ⟨_, rfl⟩) d_Mo_name_180 rfl ?_ (by decide) (by show _ + _ ≤ 16; omega)
        exact ⟨rfl, fun q e0 => (hfr q e0), _, _, rfl, by omega, q0⟩
      · skip
        refine g_aload d_Mo_name_147 rfl ?_
        refine g_iload d_Mo_name_149 rfl ?_
        refine g_iload d_Mo_name_151 rfl ?_
        refine g_iadd d_Mo_name_153 ?_
        refine g_lload_n d_Mo_name_154 rfl ?_
        refine g_bipush d_Mo_name_155 (by decide) ?_
        refine g_iload d_Mo_name_157 rfl ?_
        refine g_iconst d_Mo_name_159 ?_
        refine g_isub d_Mo_name_160 ?_
        refine g_iload d_Mo_name_161 rfl ?_
        refine g_isub d_Mo_name_163 ?_
        refine g_imul d_Mo_name_164 ?_
        refine g_lushr d_Mo_name_165 rfl ?_
        refine g_ldcL w_766 d_Mo_name_166 ?_
        refine g_land d_Mo_name_169 ?_
        refine g_l2i d_Mo_name_170 (iI_of _).symm ?_
        refine g_iast d_Mo_name_171 q0 (by omega) (by omega) (by omega) ?_
        refine g_iinc d_Mo_name_172 rfl (by decide) rfl ?_
        refine g_goto (tgt := 140) d_Mo_name_175 (by decide) ?_
        exact ih (c1) (c2) (i + 1) (kz) ((upd (f1) ((c1 + i) : Int).toNat (iI ((((((w2 : Int64).toUInt64 >>> ((iI ((8 * ((c2 - 1) - i)))).toInt64.toUInt64 &&& Int64.toUInt64 63)).toInt64) &&& 255)).toInt32.toInt)))) _ (by omega) (by omega) (by omega) (by omega) (by omega) (by omega) (by omega) (by omega) (fun q e0 => ((hu_ne (by omega)).trans (hfr q e0))) (hu_same _ _ _)
  have loop102 : ∀ (kk : Nat) (c1 : Int) (c2 : Int) (i : Int) (kz : Nat) (f1 : Nat → Int32) (M1 : HM), 0 ≤ c1 → c1 ≤ 8 → 0 ≤ c2 → c2 ≤ 8 → 0 ≤ i → i ≤ 8 → c1 + c2 = (kz : Nat) → 8 - i < (kk : Int) → (∀ q, q ≠ n → M1 q = M q) → M1 (n) = some (.inl (Γ.2.2.1 1, kz, .inl (f1))) → G Γ k_Mo_name (AA M n) (EM Γ k_Mo_name (AA M n) (Q_Mo_name Γ M n)) (0 + 1) (0 + kz) M1 (n + 1) 102 [some (.long (w1)), none, some (.long (w2)), none, some (.int (iI (c1))), some (.int (iI (c2))), some (.ref (n)), some (.int (iI (i)))] [] := by
    intro kk
    induction kk with
    | zero => intro c1 c2 i kz f1 M1 x1 x2 x3 x4 x5 x6 x7 hm; omega
    | succ kk ih =>
      intro c1 c2 i kz f1 M1 x1 x2 x3 x4 x5 x6 x7 hm hfr q0
      refine g_iload d_Mo_name_102 rfl ?_
      refine g_iload d_Mo_name_104 rfl ?_
      refine g_icmp_ge (tgt := 137) d_Mo_name_106 (by decide) (fun h1021 => ?_) (fun h1021 => ?_)
      · skip
        refine g_iconst d_Mo_name_137 ?_
        refine g_istore d_Mo_name_138 (by decide) rfl ?_
        exact loop140 50 (c1) (c2) (0) (kz) ((f1)) _ (by omega) (by omega) (by omega) (by omega) (by omega) (by omega) (by omega) (by omega) (fun q e0 => (hfr q e0)) q0
      · skip
        refine g_aload d_Mo_name_109 rfl ?_
        refine g_iload d_Mo_name_111 rfl ?_
        refine g_lload_n d_Mo_name_113 rfl ?_
        refine g_bipush d_Mo_name_114 (by decide) ?_
        refine g_iload d_Mo_name_116 rfl ?_
        refine g_iconst d_Mo_name_118 ?_
        refine g_isub d_Mo_name_119 ?_
        refine g_iload d_Mo_name_120 rfl ?_
        refine g_isub d_Mo_name_122 ?_
        refine g_imul d_Mo_name_123 ?_
        refine g_lushr d_Mo_name_124 rfl ?_
        refine g_ldcL w_766 d_Mo_name_125 ?_
        refine g_land d_Mo_name_128 ?_
        refine g_l2i d_Mo_name_129 (iI_of _).symm ?_
        refine g_iast d_Mo_name_130 q0 (by omega) (by omega) (by omega) ?_
        refine g_iinc d_Mo_name_131 rfl (by decide) rfl ?_
        refine g_goto (tgt := 102) d_Mo_name_134 (by decide) ?_
        exact ih (c1) (c2) (i + 1) (kz) ((upd (f1) (i : Int).toNat (iI ((((((w1 : Int64).toUInt64 >>> ((iI ((8 * ((c1 - 1) - i)))).toInt64.toUInt64 &&& Int64.toUInt64 63)).toInt64) &&& 255)).toInt32.toInt)))) _ (by omega) (by omega) (by omega) (by omega) (by omega) (by omega) (by omega) (by omega) (fun q e0 => ((hu_ne (by omega)).trans (hfr q e0))) (hu_same _ _ _)
  have loop51 : ∀ (kk : Nat) (c1 : Int) (c2 : Int) (i : Int), 0 ≤ c1 → c1 ≤ 8 → 0 ≤ c2 → c2 ≤ i → 0 ≤ i → i ≤ 8 → 8 - i < (kk : Int) → G Γ k_Mo_name (AA M n) (EM Γ k_Mo_name (AA M n) (Q_Mo_name Γ M n)) 0 0 M (n) 51 [some (.long (w1)), none, some (.long (w2)), none, some (.int (iI (c1))), some (.int (iI (c2))), some (.int (iI (i))), none] [] := by
    intro kk
    induction kk with
    | zero => intro c1 c2 i x1 x2 x3 x4 x5 x6 hm; omega
    | succ kk ih =>
      intro c1 c2 i x1 x2 x3 x4 x5 x6 hm 
      refine g_iload d_Mo_name_51 rfl ?_
      refine g_bipush d_Mo_name_53 (by decide) ?_
      refine g_icmp_ge (tgt := 90) d_Mo_name_55 (by decide) (fun h511 => ?_) (fun h511 => ?_)
      · skip
        refine g_iload d_Mo_name_90 rfl ?_
        refine g_iload d_Mo_name_92 rfl ?_
        refine g_iadd d_Mo_name_94 ?_
        obtain ⟨k512, hk512⟩ : ∃ z : Nat, (c1 + c2) = (z : Nat) := ⟨((c1 + c2)).toNat, by omega⟩
        rw [hk512]
        refine g_newai (k := k512) d_Mo_name_95 w_118 (by omega) (by decide) (by show _ + k512 ≤ 16; omega) ?_
        refine g_astore d_Mo_name_97 (by decide) rfl ?_
        refine g_iconst d_Mo_name_99 ?_
        refine g_istore d_Mo_name_100 (by decide) rfl ?_
        exact loop102 50 (c1) (c2) (0) (k512) ((fun _ => iI 0)) _ (by omega) (by omega) (by omega) (by omega) (by omega) (by omega) (by omega) (by omega) (fun q e0 => ((hu_ne (by omega)).trans rfl)) (hu_same _ _ _)
      · skip
        refine g_iload d_Mo_name_58 rfl ?_
        refine g_lload_n d_Mo_name_60 rfl ?_
        refine g_bipush d_Mo_name_61 (by decide) ?_
        refine g_iload d_Mo_name_63 rfl ?_
        refine g_imul d_Mo_name_65 ?_
        refine g_lushr d_Mo_name_66 rfl ?_
        refine g_ldcL w_766 d_Mo_name_67 ?_
        refine g_land d_Mo_name_70 ?_
        refine g_lconst d_Mo_name_71 rfl ?_
        refine g_lcmp d_Mo_name_72 (fun z513 hz513a hz513b => ?_)
        refine g_if_eq (tgt := 80) d_Mo_name_73 (by decide) (fun h514 => ?_) (fun h514 => ?_)
        · skip
          refine g_iconst d_Mo_name_80 ?_
          refine g_iadd d_Mo_name_81 ?_
          refine g_istore d_Mo_name_82 (by decide) rfl ?_
          refine g_iinc d_Mo_name_84 rfl (by decide) rfl ?_
          refine g_goto (tgt := 51) d_Mo_name_87 (by decide) ?_
          exact ih (c1) ((c2 + 0)) (i + 1) (by omega) (by omega) (by omega) (by omega) (by omega) (by omega) (by omega)
        · skip
          refine g_iconst d_Mo_name_76 ?_
          refine g_goto (tgt := 81) d_Mo_name_77 (by decide) ?_
          refine g_iadd d_Mo_name_81 ?_
          refine g_istore d_Mo_name_82 (by decide) rfl ?_
          refine g_iinc d_Mo_name_84 rfl (by decide) rfl ?_
          refine g_goto (tgt := 51) d_Mo_name_87 (by decide) ?_
          exact ih (c1) ((c2 + 1)) (i + 1) (by omega) (by omega) (by omega) (by omega) (by omega) (by omega) (by omega)
  have loop6 : ∀ (kk : Nat) (c1 : Int) (i : Int), 0 ≤ c1 → c1 ≤ i → 0 ≤ i → i ≤ 8 → 8 - i < (kk : Int) → G Γ k_Mo_name (AA M n) (EM Γ k_Mo_name (AA M n) (Q_Mo_name Γ M n)) 0 0 M (n) 6 [some (.long (w1)), none, some (.long (w2)), none, some (.int (iI (c1))), some (.int (iI (i))), none, none] [] := by
    intro kk
    induction kk with
    | zero => intro c1 i x1 x2 x5 x6 hm; omega
    | succ kk ih =>
      intro c1 i x1 x2 x5 x6 hm 
      refine g_iload d_Mo_name_6 rfl ?_
      refine g_bipush d_Mo_name_8 (by decide) ?_
      refine g_icmp_ge (tgt := 45) d_Mo_name_10 (by decide) (fun h61 => ?_) (fun h61 => ?_)
      · skip
        refine g_iconst d_Mo_name_45 ?_
        refine g_istore d_Mo_name_46 (by decide) rfl ?_
        refine g_iconst d_Mo_name_48 ?_
        refine g_istore d_Mo_name_49 (by decide) rfl ?_
        exact loop51 50 (c1) (0) (0) (by omega) (by omega) (by omega) (by omega) (by omega) (by omega) (by omega)
      · skip
        refine g_iload d_Mo_name_13 rfl ?_
        refine g_lload_n d_Mo_name_15 rfl ?_
        refine g_bipush d_Mo_name_16 (by decide) ?_
        refine g_iload d_Mo_name_18 rfl ?_
        refine g_imul d_Mo_name_20 ?_
        refine g_lushr d_Mo_name_21 rfl ?_
        refine g_ldcL w_766 d_Mo_name_22 ?_
        refine g_land d_Mo_name_25 ?_
        refine g_lconst d_Mo_name_26 rfl ?_
        refine g_lcmp d_Mo_name_27 (fun z62 hz62a hz62b => ?_)
        refine g_if_eq (tgt := 35) d_Mo_name_28 (by decide) (fun h63 => ?_) (fun h63 => ?_)
        · skip
          refine g_iconst d_Mo_name_35 ?_
          refine g_iadd d_Mo_name_36 ?_
          refine g_istore d_Mo_name_37 (by decide) rfl ?_
          refine g_iinc d_Mo_name_39 rfl (by decide) rfl ?_
          refine g_goto (tgt := 6) d_Mo_name_42 (by decide) ?_
          exact ih ((c1 + 0)) (i + 1) (by omega) (by omega) (by omega) (by omega) (by omega)
        · skip
          refine g_iconst d_Mo_name_31 ?_
          refine g_goto (tgt := 36) d_Mo_name_32 (by decide) ?_
          refine g_iadd d_Mo_name_36 ?_
          refine g_istore d_Mo_name_37 (by decide) rfl ?_
          refine g_iinc d_Mo_name_39 rfl (by decide) rfl ?_
          refine g_goto (tgt := 6) d_Mo_name_42 (by decide) ?_
          exact ih ((c1 + 1)) (i + 1) (by omega) (by omega) (by omega) (by omega) (by omega)
  refine g_iconst d_Mo_name_0 ?_
  refine g_istore d_Mo_name_1 (by decide) rfl ?_
  refine g_iconst d_Mo_name_3 ?_
  refine g_istore d_Mo_name_4 (by decide) rfl ?_
  exact loop6 50 (0) (0) (by omega) (by omega) (by omega) (by omega) (by omega)
