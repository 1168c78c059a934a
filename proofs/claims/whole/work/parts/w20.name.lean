theorem d_Mo_name_140 : decode b_Mo_name 140 = .ok (.iload 7, 2) := by decide +kernel
theorem d_Mo_name_142 : decode b_Mo_name 142 = .ok (.iload 5, 2) := by decide +kernel
theorem d_Mo_name_144 : decode b_Mo_name 144 = .ok (.if_icmp .ge 34, 3) := by decide +kernel
theorem d_Mo_name_178 : decode b_Mo_name 178 = .ok (.aload 6, 2) := by decide +kernel
theorem d_Mo_name_180 : decode b_Mo_name 180 = .ok (.areturn, 1) := by decide +kernel
theorem d_Mo_name_147 : decode b_Mo_name 147 = .ok (.aload 6, 2) := by decide +kernel
theorem d_Mo_name_149 : decode b_Mo_name 149 = .ok (.iload 4, 2) := by decide +kernel
theorem d_Mo_name_151 : decode b_Mo_name 151 = .ok (.iload 7, 2) := by decide +kernel
theorem d_Mo_name_153 : decode b_Mo_name 153 = .ok (.iadd, 1) := by decide +kernel
theorem d_Mo_name_154 : decode b_Mo_name 154 = .ok (.lload_n 2, 1) := by decide +kernel
theorem d_Mo_name_155 : decode b_Mo_name 155 = .ok (.bipush 8, 2) := by decide +kernel
theorem d_Mo_name_157 : decode b_Mo_name 157 = .ok (.iload 5, 2) := by decide +kernel
theorem d_Mo_name_159 : decode b_Mo_name 159 = .ok (.iconst 1, 1) := by decide +kernel
theorem d_Mo_name_160 : decode b_Mo_name 160 = .ok (.isub, 1) := by decide +kernel
theorem d_Mo_name_161 : decode b_Mo_name 161 = .ok (.iload 7, 2) := by decide +kernel
theorem d_Mo_name_163 : decode b_Mo_name 163 = .ok (.isub, 1) := by decide +kernel
theorem d_Mo_name_164 : decode b_Mo_name 164 = .ok (.imul, 1) := by decide +kernel
theorem d_Mo_name_165 : decode b_Mo_name 165 = .ok (.lushr, 1) := by decide +kernel
theorem d_Mo_name_166 : decode b_Mo_name 166 = .ok (.ldc2_w 38, 3) := by decide +kernel
theorem d_Mo_name_169 : decode b_Mo_name 169 = .ok (.land, 1) := by decide +kernel
theorem d_Mo_name_170 : decode b_Mo_name 170 = .ok (.l2i, 1) := by decide +kernel
theorem d_Mo_name_171 : decode b_Mo_name 171 = .ok (.iastore, 1) := by decide +kernel
theorem d_Mo_name_172 : decode b_Mo_name 172 = .ok (.iinc 7 1, 3) := by decide +kernel
theorem d_Mo_name_175 : decode b_Mo_name 175 = .ok (.goto (-35), 3) := by decide +kernel
theorem d_Mo_name_102 : decode b_Mo_name 102 = .ok (.iload 7, 2) := by decide +kernel
theorem d_Mo_name_104 : decode b_Mo_name 104 = .ok (.iload 4, 2) := by decide +kernel
theorem d_Mo_name_106 : decode b_Mo_name 106 = .ok (.if_icmp .ge 31, 3) := by decide +kernel
theorem d_Mo_name_137 : decode b_Mo_name 137 = .ok (.iconst 0, 1) := by decide +kernel
theorem d_Mo_name_138 : decode b_Mo_name 138 = .ok (.istore 7, 2) := by decide +kernel
theorem d_Mo_name_109 : decode b_Mo_name 109 = .ok (.aload 6, 2) := by decide +kernel
theorem d_Mo_name_111 : decode b_Mo_name 111 = .ok (.iload 7, 2) := by decide +kernel
theorem d_Mo_name_113 : decode b_Mo_name 113 = .ok (.lload_n 0, 1) := by decide +kernel
theorem d_Mo_name_114 : decode b_Mo_name 114 = .ok (.bipush 8, 2) := by decide +kernel
theorem d_Mo_name_116 : decode b_Mo_name 116 = .ok (.iload 4, 2) := by decide +kernel
theorem d_Mo_name_118 : decode b_Mo_name 118 = .ok (.iconst 1, 1) := by decide +kernel
theorem d_Mo_name_119 : decode b_Mo_name 119 = .ok (.isub, 1) := by decide +kernel
theorem d_Mo_name_120 : decode b_Mo_name 120 = .ok (.iload 7, 2) := by decide +kernel
theorem d_Mo_name_122 : decode b_Mo_name 122 = .ok (.isub, 1) := by decide +kernel
theorem d_Mo_name_123 : decode b_Mo_name 123 = .ok (.imul, 1) := by decide +kernel
theorem d_Mo_name_124 : decode b_Mo_name 124 = .ok (.lushr, 1) := by decide +kernel
theorem d_Mo_name_125 : decode b_Mo_name 125 = .ok (.ldc2_w 38, 3) := by decide +kernel
theorem d_Mo_name_128 : decode b_Mo_name 128 = .ok (.land, 1) := by decide +kernel
theorem d_Mo_name_129 : decode b_Mo_name 129 = .ok (.l2i, 1) := by decide +kernel
theorem d_Mo_name_130 : decode b_Mo_name 130 = .ok (.iastore, 1) := by decide +kernel
theorem d_Mo_name_131 : decode b_Mo_name 131 = .ok (.iinc 7 1, 3) := by decide +kernel
theorem d_Mo_name_134 : decode b_Mo_name 134 = .ok (.goto (-32), 3) := by decide +kernel
theorem d_Mo_name_51 : decode b_Mo_name 51 = .ok (.iload 6, 2) := by decide +kernel
theorem d_Mo_name_53 : decode b_Mo_name 53 = .ok (.bipush 8, 2) := by decide +kernel
theorem d_Mo_name_55 : decode b_Mo_name 55 = .ok (.if_icmp .ge 35, 3) := by decide +kernel
theorem d_Mo_name_90 : decode b_Mo_name 90 = .ok (.iload 4, 2) := by decide +kernel
theorem d_Mo_name_92 : decode b_Mo_name 92 = .ok (.iload 5, 2) := by decide +kernel
theorem d_Mo_name_94 : decode b_Mo_name 94 = .ok (.iadd, 1) := by decide +kernel
theorem d_Mo_name_95 : decode b_Mo_name 95 = .ok (.newarray .int, 2) := by decide +kernel
theorem d_Mo_name_97 : decode b_Mo_name 97 = .ok (.astore 6, 2) := by decide +kernel
theorem d_Mo_name_99 : decode b_Mo_name 99 = .ok (.iconst 0, 1) := by decide +kernel
theorem d_Mo_name_100 : decode b_Mo_name 100 = .ok (.istore 7, 2) := by decide +kernel
theorem d_Mo_name_58 : decode b_Mo_name 58 = .ok (.iload 5, 2) := by decide +kernel
theorem d_Mo_name_60 : decode b_Mo_name 60 = .ok (.lload_n 2, 1) := by decide +kernel
theorem d_Mo_name_61 : decode b_Mo_name 61 = .ok (.bipush 8, 2) := by decide +kernel
theorem d_Mo_name_63 : decode b_Mo_name 63 = .ok (.iload 6, 2) := by decide +kernel
theorem d_Mo_name_65 : decode b_Mo_name 65 = .ok (.imul, 1) := by decide +kernel
theorem d_Mo_name_66 : decode b_Mo_name 66 = .ok (.lushr, 1) := by decide +kernel
theorem d_Mo_name_67 : decode b_Mo_name 67 = .ok (.ldc2_w 38, 3) := by decide +kernel
theorem d_Mo_name_70 : decode b_Mo_name 70 = .ok (.land, 1) := by decide +kernel
theorem d_Mo_name_71 : decode b_Mo_name 71 = .ok (.lconst 0, 1) := by decide +kernel
theorem d_Mo_name_72 : decode b_Mo_name 72 = .ok (.lcmp, 1) := by decide +kernel
theorem d_Mo_name_73 : decode b_Mo_name 73 = .ok (.ifCond .eq 7, 3) := by decide +kernel
theorem d_Mo_name_80 : decode b_Mo_name 80 = .ok (.iconst 0, 1) := by decide +kernel
theorem d_Mo_name_81 : decode b_Mo_name 81 = .ok (.iadd, 1) := by decide +kernel
theorem d_Mo_name_82 : decode b_Mo_name 82 = .ok (.istore 5, 2) := by decide +kernel
theorem d_Mo_name_84 : decode b_Mo_name 84 = .ok (.iinc 6 1, 3) := by decide +kernel
theorem d_Mo_name_87 : decode b_Mo_name 87 = .ok (.goto (-36), 3) := by decide +kernel
theorem d_Mo_name_76 : decode b_Mo_name 76 = .ok (.iconst 1, 1) := by decide +kernel
theorem d_Mo_name_77 : decode b_Mo_name 77 = .ok (.goto 4, 3) := by decide +kernel
theorem d_Mo_name_6 : decode b_Mo_name 6 = .ok (.iload 5, 2) := by decide +kernel
theorem d_Mo_name_8 : decode b_Mo_name 8 = .ok (.bipush 8, 2) := by decide +kernel
theorem d_Mo_name_10 : decode b_Mo_name 10 = .ok (.if_icmp .ge 35, 3) := by decide +kernel
theorem d_Mo_name_45 : decode b_Mo_name 45 = .ok (.iconst 0, 1) := by decide +kernel
theorem d_Mo_name_46 : decode b_Mo_name 46 = .ok (.istore 5, 2) := by decide +kernel
theorem d_Mo_name_48 : decode b_Mo_name 48 = .ok (.iconst 0, 1) := by decide +kernel
theorem d_Mo_name_49 : decode b_Mo_name 49 = .ok (.istore 6, 2) := by decide +kernel
theorem d_Mo_name_13 : decode b_Mo_name 13 = .ok (.iload 4, 2) := by decide +kernel
theorem d_Mo_name_15 : decode b_Mo_name 15 = .ok (.lload_n 0, 1) := by decide +kernel
theorem d_Mo_name_16 : decode b_Mo_name 16 = .ok (.bipush 8, 2) := by decide +kernel
theorem d_Mo_name_18 : decode b_Mo_name 18 = .ok (.iload 5, 2) := by decide +kernel
theorem d_Mo_name_20 : decode b_Mo_name 20 = .ok (.imul, 1) := by decide +kernel
theorem d_Mo_name_21 : decode b_Mo_name 21 = .ok (.lushr, 1) := by decide +kernel
theorem d_Mo_name_22 : decode b_Mo_name 22 = .ok (.ldc2_w 38, 3) := by decide +kernel
theorem d_Mo_name_25 : decode b_Mo_name 25 = .ok (.land, 1) := by decide +kernel
theorem d_Mo_name_26 : decode b_Mo_name 26 = .ok (.lconst 0, 1) := by decide +kernel
theorem d_Mo_name_27 : decode b_Mo_name 27 = .ok (.lcmp, 1) := by decide +kernel
theorem d_Mo_name_28 : decode b_Mo_name 28 = .ok (.ifCond .eq 7, 3) := by decide +kernel
theorem d_Mo_name_35 : decode b_Mo_name 35 = .ok (.iconst 0, 1) := by decide +kernel
theorem d_Mo_name_36 : decode b_Mo_name 36 = .ok (.iadd, 1) := by decide +kernel
theorem d_Mo_name_37 : decode b_Mo_name 37 = .ok (.istore 4, 2) := by decide +kernel
theorem d_Mo_name_39 : decode b_Mo_name 39 = .ok (.iinc 5 1, 3) := by decide +kernel
theorem d_Mo_name_42 : decode b_Mo_name 42 = .ok (.goto (-36), 3) := by decide +kernel
theorem d_Mo_name_31 : decode b_Mo_name 31 = .ok (.iconst 1, 1) := by decide +kernel
theorem d_Mo_name_32 : decode b_Mo_name 32 = .ok (.goto 4, 3) := by decide +kernel
theorem d_Mo_name_0 : decode b_Mo_name 0 = .ok (.iconst 0, 1) := by decide +kernel
theorem d_Mo_name_1 : decode b_Mo_name 1 = .ok (.istore 4, 2) := by decide +kernel
theorem d_Mo_name_3 : decode b_Mo_name 3 = .ok (.iconst 0, 1) := by decide +kernel
theorem d_Mo_name_4 : decode b_Mo_name 4 = .ok (.istore 5, 2) := by decide +kernel
set_option maxRecDepth 20000 in
theorem w_771 : Cond.constantLong "VaryStoreModel" 38 255 ∈ TB := tb_in 771 (by decide +kernel) (by decide +kernel)
def Q_Mo_name (Γ : GE) (M : HM) (n : Nat) : Option Value → HM → Nat → Prop := fun v M' n' => n + 1 = n' ∧ (∀ q, q ≠ n → M' q = M q) ∧ ∃ (kn : Nat) (fn : Nat → Int32), v = some (.ref n) ∧ kn ≤ 16 ∧ M' (n) = some (.inl (Γ.2.2.1 1, kn, .inl (fn)))
def k_Mo_name : MS := ("VaryStoreModel", b_Mo_name, 8, (some (.array .int)), "name", { frames := 0, cells := 1, slots := 16, locals := 0 }, [])
set_option maxRecDepth 100000 in
set_option maxHeartbeats 4000000 in
theorem c_Mo_name (Γ : GE) (w1 : Int64) (w2 : Int64) {M : HM} {n : Nat}   : CT Γ k_Mo_name y_Mo_name [.long (w1), .long (w2)] M (n) (Q_Mo_name Γ M n) := by
  refine CT.of (by decide) rfl rfl 4 rfl (Nat.le_of_ble_eq_true rfl) rfl ?_
  have loop140 : ∀ (kk : Nat) (c1 : Int) (c2 : Int) (i : Int) (kz : Nat) (f1 : Nat → Int32) (M1 : HM), 0 ≤ c1 → c1 ≤ 8 → 0 ≤ c2 → c2 ≤ 8 → 0 ≤ i → i ≤ 8 → c1 + c2 = (kz : Nat) → 8 - i < (kk : Int) → (∀ q, q ≠ n → M1 q = M q) → M1 (n) = some (.inl (Γ.2.2.1 1, kz, .inl (f1))) → G Γ k_Mo_name (AA M n) (EM Γ k_Mo_name (AA M n) (Q_Mo_name Γ M n)) (0 + 1) (0 + kz) M1 (n + 1) 140 [some (.long (w1)), none, some (.long (w2)), none, some (.int (iI (c1))), some (.int (iI (c2))), some (.ref (n)), some (.int (iI (i)))] [] := by
    intro kk
    induction kk with
    | zero => intro c1 c2 i kz f1 M1 x1 x2 x3 x4 x5 x6 x7 hm; omega
    | succ kk ih =>
      intro c1 c2 i kz f1 M1 x1 x2 x3 x4 x5 x6 x7 hm hfr q0
      refine g_iload d_Mo_name_140 rfl ?_
      refine g_iload d_Mo_name_142 rfl ?_
      refine g_icmp_ge (tgt := 178) d_Mo_name_144 (by decide) (fun h1401 => ?_) (fun h1401 => ?_)
      · skip
        refine g_aload d_Mo_name_178 rfl ?_
        refine g_aret (rt := (.array .int)) (by first | exact Or.inl ⟨_, rfl⟩ | exact Or.inr ⟨_, rfl⟩) (by first | exact Or.inl rfl | exact Or.inr ⟨_, rfl⟩) d_Mo_name_180 rfl ?_ (by decide) (by show _ + _ ≤ 16; omega)
        exact ⟨rfl, fun q e0 => (hfr q e0), _, _, rfl, by omega, q0⟩
      · skip
        refine g_aload d_Mo_name_147 rfl ?_
        refine g_iload d_Mo_name_149 rfl ?_
        refine g_iload d_Mo_name_151 rfl ?_
        refine g_iadd d_Mo_name_153 ?_
        refine g_lload_n d_Mo_name_154 rfl ?_
        refine g_bipush d_Mo_name_155 (by decide) ?_
        refine g_iload d_Mo_name_157 rfl ?_
        refine g_iconst d_Mo_name_159 ?_
        refine g_isub d_Mo_name_160 ?_
        refine g_iload d_Mo_name_161 rfl ?_
        refine g_isub d_Mo_name_163 ?_
        refine g_imul d_Mo_name_164 ?_
        refine g_lushr d_Mo_name_165 rfl ?_
        refine g_ldcL w_771 d_Mo_name_166 ?_
        refine g_land d_Mo_name_169 ?_
        refine g_l2i d_Mo_name_170 (iI_of _).symm ?_
        refine g_iast d_Mo_name_171 q0 (by omega) (by omega) (by omega) ?_
        refine g_iinc d_Mo_name_172 rfl (by decide) rfl ?_
        refine g_goto (tgt := 140) d_Mo_name_175 (by decide) ?_
        exact ih (c1) (c2) (i + 1) (kz) ((upd (f1) ((c1 + i) : Int).toNat (iI ((((((w2 : Int64).toUInt64 >>> ((iI ((8 * ((c2 - 1) - i)))).toInt64.toUInt64 &&& Int64.toUInt64 63)).toInt64) &&& 255)).toInt32.toInt)))) _ (by omega) (by omega) (by omega) (by omega) (by omega) (by omega) (by omega) (by omega) (fun q e0 => ((hu_ne (by omega)).trans (hfr q e0))) (hu_same _ _ _)
  have loop102 : ∀ (kk : Nat) (c1 : Int) (c2 : Int) (i : Int) (kz : Nat) (f1 : Nat → Int32) (M1 : HM), 0 ≤ c1 → c1 ≤ 8 → 0 ≤ c2 → c2 ≤ 8 → 0 ≤ i → i ≤ 8 → c1 + c2 = (kz : Nat) → 8 - i < (kk : Int) → (∀ q, q ≠ n → M1 q = M q) → M1 (n) = some (.inl (Γ.2.2.1 1, kz, .inl (f1))) → G Γ k_Mo_name (AA M n) (EM Γ k_Mo_name (AA M n) (Q_Mo_name Γ M n)) (0 + 1) (0 + kz) M1 (n + 1) 102 [some (.long (w1)), none, some (.long (w2)), none, some (.int (iI (c1))), some (.int (iI (c2))), some (.ref (n)), some (.int (iI (i)))] [] := by
    intro kk
    induction kk with
    | zero => intro c1 c2 i kz f1 M1 x1 x2 x3 x4 x5 x6 x7 hm; omega
    | succ kk ih =>
      intro c1 c2 i kz f1 M1 x1 x2 x3 x4 x5 x6 x7 hm hfr q0
      refine g_iload d_Mo_name_102 rfl ?_
      refine g_iload d_Mo_name_104 rfl ?_
      refine g_icmp_ge (tgt := 137) d_Mo_name_106 (by decide) (fun h1021 => ?_) (fun h1021 => ?_)
      · skip
        refine g_iconst d_Mo_name_137 ?_
        refine g_istore d_Mo_name_138 (by decide) rfl ?_
        exact loop140 50 (c1) (c2) (0) (kz) ((f1)) _ (by omega) (by omega) (by omega) (by omega) (by omega) (by omega) (by omega) (by omega) (fun q e0 => (hfr q e0)) q0
      · skip
        refine g_aload d_Mo_name_109 rfl ?_
        refine g_iload d_Mo_name_111 rfl ?_
        refine g_lload_n d_Mo_name_113 rfl ?_
        refine g_bipush d_Mo_name_114 (by decide) ?_
        refine g_iload d_Mo_name_116 rfl ?_
        refine g_iconst d_Mo_name_118 ?_
        refine g_isub d_Mo_name_119 ?_
        refine g_iload d_Mo_name_120 rfl ?_
        refine g_isub d_Mo_name_122 ?_
        refine g_imul d_Mo_name_123 ?_
        refine g_lushr d_Mo_name_124 rfl ?_
        refine g_ldcL w_771 d_Mo_name_125 ?_
        refine g_land d_Mo_name_128 ?_
        refine g_l2i d_Mo_name_129 (iI_of _).symm ?_
        refine g_iast d_Mo_name_130 q0 (by omega) (by omega) (by omega) ?_
        refine g_iinc d_Mo_name_131 rfl (by decide) rfl ?_
        refine g_goto (tgt := 102) d_Mo_name_134 (by decide) ?_
        exact ih (c1) (c2) (i + 1) (kz) ((upd (f1) (i : Int).toNat (iI ((((((w1 : Int64).toUInt64 >>> ((iI ((8 * ((c1 - 1) - i)))).toInt64.toUInt64 &&& Int64.toUInt64 63)).toInt64) &&& 255)).toInt32.toInt)))) _ (by omega) (by omega) (by omega) (by omega) (by omega) (by omega) (by omega) (by omega) (fun q e0 => ((hu_ne (by omega)).trans (hfr q e0))) (hu_same _ _ _)
  have loop51 : ∀ (kk : Nat) (c1 : Int) (c2 : Int) (i : Int), 0 ≤ c1 → c1 ≤ 8 → 0 ≤ c2 → c2 ≤ i → 0 ≤ i → i ≤ 8 → 8 - i < (kk : Int) → G Γ k_Mo_name (AA M n) (EM Γ k_Mo_name (AA M n) (Q_Mo_name Γ M n)) 0 0 M (n) 51 [some (.long (w1)), none, some (.long (w2)), none, some (.int (iI (c1))), some (.int (iI (c2))), some (.int (iI (i))), none] [] := by
    intro kk
    induction kk with
    | zero => intro c1 c2 i x1 x2 x3 x4 x5 x6 hm; omega
    | succ kk ih =>
      intro c1 c2 i x1 x2 x3 x4 x5 x6 hm 
      refine g_iload d_Mo_name_51 rfl ?_
      refine g_bipush d_Mo_name_53 (by decide) ?_
      refine g_icmp_ge (tgt := 90) d_Mo_name_55 (by decide) (fun h511 => ?_) (fun h511 => ?_)
      · skip
        refine g_iload d_Mo_name_90 rfl ?_
        refine g_iload d_Mo_name_92 rfl ?_
        refine g_iadd d_Mo_name_94 ?_
        obtain ⟨k512, hk512⟩ : ∃ z : Nat, (c1 + c2) = (z : Nat) := ⟨((c1 + c2)).toNat, by omega⟩
        rw [hk512]
        refine g_newai (k := k512) d_Mo_name_95 w_118 (by omega) (by decide) (by show _ + k512 ≤ 16; omega) ?_
        refine g_astore d_Mo_name_97 (by decide) rfl ?_
        refine g_iconst d_Mo_name_99 ?_
        refine g_istore d_Mo_name_100 (by decide) rfl ?_
        exact loop102 50 (c1) (c2) (0) (k512) ((fun _ => iI 0)) _ (by omega) (by omega) (by omega) (by omega) (by omega) (by omega) (by omega) (by omega) (fun q e0 => ((hu_ne (by omega)).trans rfl)) (hu_same _ _ _)
      · skip
        refine g_iload d_Mo_name_58 rfl ?_
        refine g_lload_n d_Mo_name_60 rfl ?_
        refine g_bipush d_Mo_name_61 (by decide) ?_
        refine g_iload d_Mo_name_63 rfl ?_
        refine g_imul d_Mo_name_65 ?_
        refine g_lushr d_Mo_name_66 rfl ?_
        refine g_ldcL w_771 d_Mo_name_67 ?_
        refine g_land d_Mo_name_70 ?_
        refine g_lconst d_Mo_name_71 rfl ?_
        refine g_lcmp d_Mo_name_72 (fun z513 hz513a hz513b => ?_)
        refine g_if_eq (tgt := 80) d_Mo_name_73 (by decide) (fun h514 => ?_) (fun h514 => ?_)
        · skip
          refine g_iconst d_Mo_name_80 ?_
          refine g_iadd d_Mo_name_81 ?_
          refine g_istore d_Mo_name_82 (by decide) rfl ?_
          refine g_iinc d_Mo_name_84 rfl (by decide) rfl ?_
          refine g_goto (tgt := 51) d_Mo_name_87 (by decide) ?_
          exact ih (c1) ((c2 + 0)) (i + 1) (by omega) (by omega) (by omega) (by omega) (by omega) (by omega) (by omega)
        · skip
          refine g_iconst d_Mo_name_76 ?_
          refine g_goto (tgt := 81) d_Mo_name_77 (by decide) ?_
          refine g_iadd d_Mo_name_81 ?_
          refine g_istore d_Mo_name_82 (by decide) rfl ?_
          refine g_iinc d_Mo_name_84 rfl (by decide) rfl ?_
          refine g_goto (tgt := 51) d_Mo_name_87 (by decide) ?_
          exact ih (c1) ((c2 + 1)) (i + 1) (by omega) (by omega) (by omega) (by omega) (by omega) (by omega) (by omega)
  have loop6 : ∀ (kk : Nat) (c1 : Int) (i : Int), 0 ≤ c1 → c1 ≤ i → 0 ≤ i → i ≤ 8 → 8 - i < (kk : Int) → G Γ k_Mo_name (AA M n) (EM Γ k_Mo_name (AA M n) (Q_Mo_name Γ M n)) 0 0 M (n) 6 [some (.long (w1)), none, some (.long (w2)), none, some (.int (iI (c1))), some (.int (iI (i))), none, none] [] := by
    intro kk
    induction kk with
    | zero => intro c1 i x1 x2 x5 x6 hm; omega
    | succ kk ih =>
      intro c1 i x1 x2 x5 x6 hm 
      refine g_iload d_Mo_name_6 rfl ?_
      refine g_bipush d_Mo_name_8 (by decide) ?_
      refine g_icmp_ge (tgt := 45) d_Mo_name_10 (by decide) (fun h61 => ?_) (fun h61 => ?_)
      · skip
        refine g_iconst d_Mo_name_45 ?_
        refine g_istore d_Mo_name_46 (by decide) rfl ?_
        refine g_iconst d_Mo_name_48 ?_
        refine g_istore d_Mo_name_49 (by decide) rfl ?_
        exact loop51 50 (c1) (0) (0) (by omega) (by omega) (by omega) (by omega) (by omega) (by omega) (by omega)
      · skip
        refine g_iload d_Mo_name_13 rfl ?_
        refine g_lload_n d_Mo_name_15 rfl ?_
        refine g_bipush d_Mo_name_16 (by decide) ?_
        refine g_iload d_Mo_name_18 rfl ?_
        refine g_imul d_Mo_name_20 ?_
        refine g_lushr d_Mo_name_21 rfl ?_
        refine g_ldcL w_771 d_Mo_name_22 ?_
        refine g_land d_Mo_name_25 ?_
        refine g_lconst d_Mo_name_26 rfl ?_
        refine g_lcmp d_Mo_name_27 (fun z62 hz62a hz62b => ?_)
        refine g_if_eq (tgt := 35) d_Mo_name_28 (by decide) (fun h63 => ?_) (fun h63 => ?_)
        · skip
          refine g_iconst d_Mo_name_35 ?_
          refine g_iadd d_Mo_name_36 ?_
          refine g_istore d_Mo_name_37 (by decide) rfl ?_
          refine g_iinc d_Mo_name_39 rfl (by decide) rfl ?_
          refine g_goto (tgt := 6) d_Mo_name_42 (by decide) ?_
          exact ih ((c1 + 0)) (i + 1) (by omega) (by omega) (by omega) (by omega) (by omega)
        · skip
          refine g_iconst d_Mo_name_31 ?_
          refine g_goto (tgt := 36) d_Mo_name_32 (by decide) ?_
          refine g_iadd d_Mo_name_36 ?_
          refine g_istore d_Mo_name_37 (by decide) rfl ?_
          refine g_iinc d_Mo_name_39 rfl (by decide) rfl ?_
          refine g_goto (tgt := 6) d_Mo_name_42 (by decide) ?_
          exact ih ((c1 + 1)) (i + 1) (by omega) (by omega) (by omega) (by omega) (by omega)
  refine g_iconst d_Mo_name_0 ?_
  refine g_istore d_Mo_name_1 (by decide) rfl ?_
  refine g_iconst d_Mo_name_3 ?_
  refine g_istore d_Mo_name_4 (by decide) rfl ?_
  exact loop6 50 (0) (0) (by omega) (by omega) (by omega) (by omega) (by omega)
