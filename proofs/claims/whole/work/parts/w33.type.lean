theorem d_Mo_type_85 : decode b_Mo_type 85 = .ok (.iload 4, 2) := by decide +kernel
theorem d_Mo_type_87 : decode b_Mo_type 87 = .ok (.iload_n 3, 1) := by decide +kernel
theorem d_Mo_type_88 : decode b_Mo_type 88 = .ok (.if_icmp .ge 37, 3) := by decide +kernel
theorem d_Mo_type_125 : decode b_Mo_type 125 = .ok (.aload_n 0, 1) := by decide +kernel
theorem d_Mo_type_126 : decode b_Mo_type 126 = .ok (.dup, 1) := by decide +kernel
theorem d_Mo_type_127 : decode b_Mo_type 127 = .ok (.getfield 35, 3) := by decide +kernel
theorem d_Mo_type_130 : decode b_Mo_type 130 = .ok (.iload_n 3, 1) := by decide +kernel
theorem d_Mo_type_131 : decode b_Mo_type 131 = .ok (.iadd, 1) := by decide +kernel
theorem d_Mo_type_132 : decode b_Mo_type 132 = .ok (.putfield 35, 3) := by decide +kernel
theorem d_Mo_type_135 : decode b_Mo_type 135 = .ok (.iconst 1, 1) := by decide +kernel
theorem d_Mo_type_136 : decode b_Mo_type 136 = .ok (.ireturn, 1) := by decide +kernel
theorem d_Mo_type_91 : decode b_Mo_type 91 = .ok (.aload_n 0, 1) := by decide +kernel
theorem d_Mo_type_92 : decode b_Mo_type 92 = .ok (.getfield 7, 3) := by decide +kernel
theorem d_Mo_type_95 : decode b_Mo_type 95 = .ok (.aload_n 0, 1) := by decide +kernel
theorem d_Mo_type_96 : decode b_Mo_type 96 = .ok (.getfield 35, 3) := by decide +kernel
theorem d_Mo_type_99 : decode b_Mo_type 99 = .ok (.iload 4, 2) := by decide +kernel
theorem d_Mo_type_101 : decode b_Mo_type 101 = .ok (.iadd, 1) := by decide +kernel
theorem d_Mo_type_102 : decode b_Mo_type 102 = .ok (.lload_n 1, 1) := by decide +kernel
theorem d_Mo_type_103 : decode b_Mo_type 103 = .ok (.bipush 8, 2) := by decide +kernel
theorem d_Mo_type_105 : decode b_Mo_type 105 = .ok (.iload_n 3, 1) := by decide +kernel
theorem d_Mo_type_106 : decode b_Mo_type 106 = .ok (.iconst 1, 1) := by decide +kernel
theorem d_Mo_type_107 : decode b_Mo_type 107 = .ok (.isub, 1) := by decide +kernel
theorem d_Mo_type_108 : decode b_Mo_type 108 = .ok (.iload 4, 2) := by decide +kernel
theorem d_Mo_type_110 : decode b_Mo_type 110 = .ok (.isub, 1) := by decide +kernel
theorem d_Mo_type_111 : decode b_Mo_type 111 = .ok (.imul, 1) := by decide +kernel
theorem d_Mo_type_112 : decode b_Mo_type 112 = .ok (.lushr, 1) := by decide +kernel
theorem d_Mo_type_113 : decode b_Mo_type 113 = .ok (.ldc2_w 38, 3) := by decide +kernel
theorem d_Mo_type_116 : decode b_Mo_type 116 = .ok (.land, 1) := by decide +kernel
theorem d_Mo_type_117 : decode b_Mo_type 117 = .ok (.l2i, 1) := by decide +kernel
theorem d_Mo_type_118 : decode b_Mo_type 118 = .ok (.iastore, 1) := by decide +kernel
theorem d_Mo_type_119 : decode b_Mo_type 119 = .ok (.iinc 4 1, 3) := by decide +kernel
theorem d_Mo_type_122 : decode b_Mo_type 122 = .ok (.goto (-37), 3) := by decide +kernel
theorem d_Mo_type_33 : decode b_Mo_type 33 = .ok (.iload 4, 2) := by decide +kernel
theorem d_Mo_type_35 : decode b_Mo_type 35 = .ok (.iload_n 3, 1) := by decide +kernel
theorem d_Mo_type_36 : decode b_Mo_type 36 = .ok (.if_icmp .ge 46, 3) := by decide +kernel
theorem d_Mo_type_82 : decode b_Mo_type 82 = .ok (.iconst 0, 1) := by decide +kernel
theorem d_Mo_type_83 : decode b_Mo_type 83 = .ok (.istore 4, 2) := by decide +kernel
theorem d_Mo_type_39 : decode b_Mo_type 39 = .ok (.lload_n 1, 1) := by decide +kernel
theorem d_Mo_type_40 : decode b_Mo_type 40 = .ok (.bipush 8, 2) := by decide +kernel
theorem d_Mo_type_42 : decode b_Mo_type 42 = .ok (.iload 4, 2) := by decide +kernel
theorem d_Mo_type_44 : decode b_Mo_type 44 = .ok (.imul, 1) := by decide +kernel
theorem d_Mo_type_45 : decode b_Mo_type 45 = .ok (.lushr, 1) := by decide +kernel
theorem d_Mo_type_46 : decode b_Mo_type 46 = .ok (.ldc2_w 38, 3) := by decide +kernel
theorem d_Mo_type_49 : decode b_Mo_type 49 = .ok (.land, 1) := by decide +kernel
theorem d_Mo_type_50 : decode b_Mo_type 50 = .ok (.l2i, 1) := by decide +kernel
theorem d_Mo_type_51 : decode b_Mo_type 51 = .ok (.istore 5, 2) := by decide +kernel
theorem d_Mo_type_53 : decode b_Mo_type 53 = .ok (.iload 5, 2) := by decide +kernel
theorem d_Mo_type_55 : decode b_Mo_type 55 = .ok (.bipush 10, 2) := by decide +kernel
theorem d_Mo_type_57 : decode b_Mo_type 57 = .ok (.if_icmp .eq 19, 3) := by decide +kernel
theorem d_Mo_type_76 : decode b_Mo_type 76 = .ok (.iinc 4 1, 3) := by decide +kernel
theorem d_Mo_type_79 : decode b_Mo_type 79 = .ok (.goto (-46), 3) := by decide +kernel
theorem d_Mo_type_60 : decode b_Mo_type 60 = .ok (.iload 5, 2) := by decide +kernel
theorem d_Mo_type_62 : decode b_Mo_type 62 = .ok (.bipush 32, 2) := by decide +kernel
theorem d_Mo_type_64 : decode b_Mo_type 64 = .ok (.if_icmp .lt 10, 3) := by decide +kernel
theorem d_Mo_type_74 : decode b_Mo_type 74 = .ok (.iconst 0, 1) := by decide +kernel
theorem d_Mo_type_75 : decode b_Mo_type 75 = .ok (.ireturn, 1) := by decide +kernel
theorem d_Mo_type_67 : decode b_Mo_type 67 = .ok (.iload 5, 2) := by decide +kernel
theorem d_Mo_type_69 : decode b_Mo_type 69 = .ok (.bipush 126, 2) := by decide +kernel
theorem d_Mo_type_71 : decode b_Mo_type 71 = .ok (.if_icmp .le 5, 3) := by decide +kernel
theorem d_Mo_type_0 : decode b_Mo_type 0 = .ok (.aload_n 0, 1) := by decide +kernel
theorem d_Mo_type_1 : decode b_Mo_type 1 = .ok (.iconst 0, 1) := by decide +kernel
theorem d_Mo_type_2 : decode b_Mo_type 2 = .ok (.putfield 32, 3) := by decide +kernel
theorem d_Mo_type_5 : decode b_Mo_type 5 = .ok (.iload_n 3, 1) := by decide +kernel
theorem d_Mo_type_6 : decode b_Mo_type 6 = .ok (.iconst 1, 1) := by decide +kernel
theorem d_Mo_type_7 : decode b_Mo_type 7 = .ok (.if_icmp .lt 21, 3) := by decide +kernel
theorem d_Mo_type_28 : decode b_Mo_type 28 = .ok (.iconst 0, 1) := by decide +kernel
theorem d_Mo_type_29 : decode b_Mo_type 29 = .ok (.ireturn, 1) := by decide +kernel
theorem d_Mo_type_10 : decode b_Mo_type 10 = .ok (.iload_n 3, 1) := by decide +kernel
theorem d_Mo_type_11 : decode b_Mo_type 11 = .ok (.bipush 8, 2) := by decide +kernel
theorem d_Mo_type_13 : decode b_Mo_type 13 = .ok (.if_icmp .gt 15, 3) := by decide +kernel
theorem d_Mo_type_16 : decode b_Mo_type 16 = .ok (.aload_n 0, 1) := by decide +kernel
theorem d_Mo_type_17 : decode b_Mo_type 17 = .ok (.getfield 35, 3) := by decide +kernel
theorem d_Mo_type_20 : decode b_Mo_type 20 = .ok (.iload_n 3, 1) := by decide +kernel
theorem d_Mo_type_21 : decode b_Mo_type 21 = .ok (.iadd, 1) := by decide +kernel
theorem d_Mo_type_22 : decode b_Mo_type 22 = .ok (.sipush 300, 3) := by decide +kernel
theorem d_Mo_type_25 : decode b_Mo_type 25 = .ok (.if_icmp .le 5, 3) := by decide +kernel
theorem d_Mo_type_30 : decode b_Mo_type 30 = .ok (.iconst 0, 1) := by decide +kernel
theorem d_Mo_type_31 : decode b_Mo_type 31 = .ok (.istore 4, 2) := by decide +kernel
def Q_Mo_type (Γ : GE) (M : HM) (n r : Nat) (w : Int64) (k : Int) : Option Value → HM → Nat → Prop := fun v M' n' => n = n' ∧ (∀ q, q ≠ r → q ≠ r + 1 → M' q = M q) ∧ ((v = some (.int (iI 1)) ∧ typeOK w k) ∨ (v = some (.int (iI 0)) ∧ ¬ typeOK w k))
def k_Mo_type : MS := ("VaryStoreModel", b_Mo_type, 6, (some .boolean), "type", { frames := 0, cells := 0, slots := 0, locals := 0 }, [])
set_option maxRecDepth 100000 in
set_option maxHeartbeats 4000000 in
theorem c_Mo_type (Γ : GE) (r : Nat) (fa : Int) (tm : Int) (th : Int) (ev : Int64) (rq : Nat) (w : Int64) (k : Int) (f : Nat → Int32) {M : HM} {n : Nat} (ka : -2147483648 ≤ k) (kb : k < 2147483648) (p0 : M (r) = some (.inr (6, [.ref (r + 1), .int (iI (0)), .int (iI (fa)), .int (iI (tm)), .int (iI (th)), .long (ev), .ref (rq), .ref (r + 7), .int (iI (0))]))) (p1 : M (r + 1) = some (.inl (Γ.2.2.1 1, 300, .inl (f)))) : CT Γ k_Mo_type y_Mo_type [.ref (r), .long (w), .int (iI (k))] M (n) (Q_Mo_type Γ M n r w k) := by
  refine CT.of (by decide) rfl rfl 2 rfl (Nat.le_of_ble_eq_true rfl) rfl ?_
  have loop2 : 1 ≤ k → k ≤ 8 → (∀ j : Int, 0 ≤ j → j < k → okc (wbz w j)) → ∀ (kk : Nat) (i z : Int) (f1 : Nat → Int32) (M1 : HM), 0 ≤ i → i ≤ k → k - i < (kk : Int) → z = 0 → 0 ≤ z → (∀ q, q ≠ r → q ≠ r + 1 → M1 q = M q) → M1 (r) = some (.inr (6, [.ref (r + 1), .int (iI (0)), .int (iI (fa)), .int (iI (tm)), .int (iI (0)), .long (ev), .ref (rq), .ref (r + 7), .int (iI (0))])) → M1 (r + 1) = some (.inl (Γ.2.2.1 1, 300, .inl (f1))) → G Γ k_Mo_type (AA M n) (EM Γ k_Mo_type (AA M n) (Q_Mo_type Γ M n r w k)) 0 0 M1 n 85 [some (.ref (r)), some (.long (w)), none, some (.int (iI (k))), some (.int (iI (i))), none] [] := by
    intro hk1 hk8 hok kk
    induction kk with
    | zero => intro i z f1 M1 y1 y2 y3 y4 y5; omega
    | succ kk ih =>
      intro i z f1 M1 y1 y2 y3 y4 y5 hfr q0 q1
      refine g_iload d_Mo_type_85 rfl ?_
      refine g_iload_n d_Mo_type_87 rfl ?_
      refine g_icmp_ge (tgt := 125) d_Mo_type_88 (by decide) (fun h101 => ?_) (fun h101 => ?_)
      · skip
        refine g_aload_n d_Mo_type_125 rfl ?_
        refine g_dup d_Mo_type_126 rfl ?_
        refine g_get fa_Mo_35 d_Mo_type_127 q0 rfl ?_
        refine g_iload_n d_Mo_type_130 rfl ?_
        refine g_iadd d_Mo_type_131 ?_
        refine g_put fa_Mo_35 d_Mo_type_132 q0 (Nat.le_of_ble_eq_true rfl) rfl rfl rfl ?_
        refine g_iconst d_Mo_type_135 ?_
        refine g_zret (ty := .boolean) (by first | rfl | decide) d_Mo_type_136 rfl ?_ (by decide) (by decide)
        exact ⟨rfl, fun q e0 e1 => ((hu_ne (by omega)).trans (hfr q e0 e1)), Or.inl ⟨rfl, hk1, hk8, hok⟩⟩
      · skip
        refine g_aload_n d_Mo_type_91 rfl ?_
        refine g_get fa_Mo_7 d_Mo_type_92 q0 rfl ?_
        refine g_aload_n d_Mo_type_95 rfl ?_
        refine g_get fa_Mo_35 d_Mo_type_96 q0 rfl ?_
        refine g_iload d_Mo_type_99 rfl ?_
        refine g_iadd d_Mo_type_101 ?_
        refine g_lload_n d_Mo_type_102 rfl ?_
        refine g_bipush d_Mo_type_103 (by decide) ?_
        refine g_iload_n d_Mo_type_105 rfl ?_
        refine g_iconst d_Mo_type_106 ?_
        refine g_isub d_Mo_type_107 ?_
        refine g_iload d_Mo_type_108 rfl ?_
        refine g_isub d_Mo_type_110 ?_
        refine g_imul d_Mo_type_111 ?_
        refine g_lushr d_Mo_type_112 rfl ?_
        refine g_ldcL w_771 d_Mo_type_113 ?_
        refine g_land d_Mo_type_116 ?_
        refine g_l2i d_Mo_type_117 (iI_of _).symm ?_
        refine g_iast d_Mo_type_118 q1 (by omega) (by omega) (by omega) ?_
        refine g_iinc d_Mo_type_119 rfl (by decide) rfl ?_
        refine g_goto (tgt := 85) d_Mo_type_122 (by decide) ?_
        exact ih (i + 1) (0) _ _ (by omega) (by omega) (by omega) (by omega) (by omega) (fun q e0 e1 => ((hu_ne (by omega)).trans (hfr q e0 e1))) ((hu_ne (by omega)).trans q0) (hu_same _ _ _)
  have loop1 : 1 ≤ k → k ≤ 8 → ∀ (kk : Nat) (i : Int) (M1 : HM), 0 ≤ i → i ≤ k → k - i < (kk : Int) → -1 ≤ i → (∀ j : Int, 0 ≤ j → j < i → okc (wbz w j)) → (∀ q, q ≠ r → q ≠ r + 1 → M1 q = M q) → M1 (r) = some (.inr (6, [.ref (r + 1), .int (iI (0)), .int (iI (fa)), .int (iI (tm)), .int (iI (0)), .long (ev), .ref (rq), .ref (r + 7), .int (iI (0))])) → M1 (r + 1) = some (.inl (Γ.2.2.1 1, 300, .inl (f))) → G Γ k_Mo_type (AA M n) (EM Γ k_Mo_type (AA M n) (Q_Mo_type Γ M n r w k)) 0 0 M1 n 33 [some (.ref (r)), some (.long (w)), none, some (.int (iI (k))), some (.int (iI (i))), none] [] := by
    intro hk1 hk8 kk
    induction kk with
    | zero => intro i M1 y1 y2 y3; omega
    | succ kk ih =>
      intro i M1 y1 y2 y3 y4 hok hfr q0 q1
      refine g_iload d_Mo_type_33 rfl ?_
      refine g_iload_n d_Mo_type_35 rfl ?_
      refine g_icmp_ge (tgt := 82) d_Mo_type_36 (by decide) (fun h201 => ?_) (fun h201 => ?_)
      · skip
        refine g_iconst d_Mo_type_82 ?_
        refine g_istore d_Mo_type_83 (by decide) rfl ?_
        exact loop2 (by omega) (by omega) (fun j u1 u2 => hok j u1 (by omega)) 20 (0) (0) _ _ (by omega) (by omega) (by omega) (by omega) (by omega) (fun q e0 e1 => (hfr q e0 e1)) q0 q1
      · skip
        refine g_lload_n d_Mo_type_39 rfl ?_
        refine g_bipush d_Mo_type_40 (by decide) ?_
        refine g_iload d_Mo_type_42 rfl ?_
        refine g_imul d_Mo_type_44 ?_
        refine g_lushr d_Mo_type_45 rfl ?_
        refine g_ldcL w_771 d_Mo_type_46 ?_
        refine g_land d_Mo_type_49 ?_
        have hrw := wbz_rng w i
        refine g_l2i (z := wbz w i) d_Mo_type_50 (wbz_m w i) ?_
        refine g_istore d_Mo_type_51 (by decide) rfl ?_
        refine g_iload d_Mo_type_53 rfl ?_
        refine g_bipush d_Mo_type_55 (by decide) ?_
        refine g_icmp_eq (tgt := 76) d_Mo_type_57 (by decide) (fun h202 => ?_) (fun h202 => ?_)
        · skip
          refine g_iinc d_Mo_type_76 rfl (by decide) rfl ?_
          refine g_goto (tgt := 33) d_Mo_type_79 (by decide) ?_
          refine g_lv (vs' := [some (.ref (r)), some (.long (w)), none, some (.int (iI (k))), some (.int (iI (i + 1))), none]) ?_ (by intro i9 v9 h9; rcases i9 with _ | _ | _ | _ | _ | _ | i9 <;> first | exact h9 | (simp at h9))
          exact ih (i + 1) _ (by omega) (by omega) (by omega) (by omega) (fun j u1 u2 => if hj : j < i then hok j u1 hj else (show j = i by omega) ▸ (by unfold okc; omega)) (fun q e0 e1 => (hfr q e0 e1)) q0 q1
        · skip
          refine g_iload d_Mo_type_60 rfl ?_
          refine g_bipush d_Mo_type_62 (by decide) ?_
          refine g_icmp_lt (tgt := 74) d_Mo_type_64 (by decide) (fun h203 => ?_) (fun h203 => ?_)
          · skip
            refine g_iconst d_Mo_type_74 ?_
            refine g_zret (ty := .boolean) (by first | rfl | decide) d_Mo_type_75 rfl ?_ (by decide) (by decide)
            exact ⟨rfl, fun q e0 e1 => (hfr q e0 e1), Or.inr ⟨rfl, fun h => absurd (h.2.2 i (by omega) (by omega)) (by unfold okc; omega)⟩⟩
          · skip
            refine g_iload d_Mo_type_67 rfl ?_
            refine g_bipush d_Mo_type_69 (by decide) ?_
            refine g_icmp_le (tgt := 76) d_Mo_type_71 (by decide) (fun h204 => ?_) (fun h204 => ?_)
            · skip
              refine g_iinc d_Mo_type_76 rfl (by decide) rfl ?_
              refine g_goto (tgt := 33) d_Mo_type_79 (by decide) ?_
              refine g_lv (vs' := [some (.ref (r)), some (.long (w)), none, some (.int (iI (k))), some (.int (iI (i + 1))), none]) ?_ (by intro i9 v9 h9; rcases i9 with _ | _ | _ | _ | _ | _ | i9 <;> first | exact h9 | (simp at h9))
              exact ih (i + 1) _ (by omega) (by omega) (by omega) (by omega) (fun j u1 u2 => if hj : j < i then hok j u1 hj else (show j = i by omega) ▸ (by unfold okc; omega)) (fun q e0 e1 => (hfr q e0 e1)) q0 q1
            · skip
              refine g_iconst d_Mo_type_74 ?_
              refine g_zret (ty := .boolean) (by first | rfl | decide) d_Mo_type_75 rfl ?_ (by decide) (by decide)
              exact ⟨rfl, fun q e0 e1 => (hfr q e0 e1), Or.inr ⟨rfl, fun h => absurd (h.2.2 i (by omega) (by omega)) (by unfold okc; omega)⟩⟩
  refine g_aload_n d_Mo_type_0 rfl ?_
  refine g_iconst d_Mo_type_1 ?_
  refine g_put fa_Mo_32 d_Mo_type_2 p0 (Nat.le_of_ble_eq_true rfl) rfl rfl rfl ?_
  refine g_iload_n d_Mo_type_5 rfl ?_
  refine g_iconst d_Mo_type_6 ?_
  refine g_icmp_lt (tgt := 28) d_Mo_type_7 (by decide) (fun h1 => ?_) (fun h1 => ?_)
  · skip
    refine g_iconst d_Mo_type_28 ?_
    refine g_zret (ty := .boolean) (by first | rfl | decide) d_Mo_type_29 rfl ?_ (by decide) (by decide)
    exact ⟨rfl, fun q e0 e1 => ((hu_ne (by omega)).trans rfl), Or.inr ⟨rfl, fun h => by have h1 := h.1; have h2 := h.2.1; omega⟩⟩
  · skip
    refine g_iload_n d_Mo_type_10 rfl ?_
    refine g_bipush d_Mo_type_11 (by decide) ?_
    refine g_icmp_gt (tgt := 28) d_Mo_type_13 (by decide) (fun h2 => ?_) (fun h2 => ?_)
    · skip
      refine g_iconst d_Mo_type_28 ?_
      refine g_zret (ty := .boolean) (by first | rfl | decide) d_Mo_type_29 rfl ?_ (by decide) (by decide)
      exact ⟨rfl, fun q e0 e1 => ((hu_ne (by omega)).trans rfl), Or.inr ⟨rfl, fun h => by have h1 := h.1; have h2 := h.2.1; omega⟩⟩
    · skip
      refine g_aload_n d_Mo_type_16 rfl ?_
      refine g_get fa_Mo_35 d_Mo_type_17 (hu_same _ _ _) rfl ?_
      refine g_iload_n d_Mo_type_20 rfl ?_
      refine g_iadd d_Mo_type_21 ?_
      refine g_sipush d_Mo_type_22 (by decide) ?_
      refine g_icmp_le (tgt := 30) d_Mo_type_25 (by decide) (fun h3 => ?_) (fun h3 => False.elim (by omega))
      refine g_iconst d_Mo_type_30 ?_
      refine g_istore d_Mo_type_31 (by decide) rfl ?_
      exact loop1 (by omega) (by omega) 20 0 _ (by omega) (by omega) (by omega) (by omega) (fun j u1 u2 => by omega) (fun q e0 e1 => ((hu_ne (by omega)).trans rfl)) (hu_same _ _ _) ((hu_ne (by omega)).trans p1)
