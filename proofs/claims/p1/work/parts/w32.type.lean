theorem d_VS_byteOf_0 : decode b_VS_byteOf 0 = .ok (.lload_n 0, 1) := by decide +kernel
theorem d_VS_byteOf_1 : decode b_VS_byteOf 1 = .ok (.bipush 8, 2) := by decide +kernel
theorem d_VS_byteOf_3 : decode b_VS_byteOf 3 = .ok (.iload_n 2, 1) := by decide +kernel
theorem d_VS_byteOf_4 : decode b_VS_byteOf 4 = .ok (.imul, 1) := by decide +kernel
theorem d_VS_byteOf_5 : decode b_VS_byteOf 5 = .ok (.lushr, 1) := by decide +kernel
theorem d_VS_byteOf_6 : decode b_VS_byteOf 6 = .ok (.l2i, 1) := by decide +kernel
theorem d_VS_byteOf_7 : decode b_VS_byteOf 7 = .ok (.sipush 255, 3) := by decide +kernel
theorem d_VS_byteOf_10 : decode b_VS_byteOf 10 = .ok (.iand, 1) := by decide +kernel
theorem d_VS_byteOf_11 : decode b_VS_byteOf 11 = .ok (.ireturn, 1) := by decide +kernel
theorem d_VS_mayBeTyped_0 : decode b_VS_mayBeTyped 0 = .ok (.iload_n 0, 1) := by decide +kernel
theorem d_VS_mayBeTyped_1 : decode b_VS_mayBeTyped 1 = .ok (.bipush 10, 2) := by decide +kernel
theorem d_VS_mayBeTyped_3 : decode b_VS_mayBeTyped 3 = .ok (.if_icmp .eq 15, 3) := by decide +kernel
theorem d_VS_mayBeTyped_18 : decode b_VS_mayBeTyped 18 = .ok (.iconst 1, 1) := by decide +kernel
theorem d_VS_mayBeTyped_19 : decode b_VS_mayBeTyped 19 = .ok (.goto 4, 3) := by decide +kernel
theorem d_VS_mayBeTyped_23 : decode b_VS_mayBeTyped 23 = .ok (.ireturn, 1) := by decide +kernel
theorem d_VS_mayBeTyped_6 : decode b_VS_mayBeTyped 6 = .ok (.iload_n 0, 1) := by decide +kernel
theorem d_VS_mayBeTyped_7 : decode b_VS_mayBeTyped 7 = .ok (.bipush 32, 2) := by decide +kernel
theorem d_VS_mayBeTyped_9 : decode b_VS_mayBeTyped 9 = .ok (.if_icmp .lt 13, 3) := by decide +kernel
theorem d_VS_mayBeTyped_22 : decode b_VS_mayBeTyped 22 = .ok (.iconst 0, 1) := by decide +kernel
theorem d_VS_mayBeTyped_12 : decode b_VS_mayBeTyped 12 = .ok (.iload_n 0, 1) := by decide +kernel
theorem d_VS_mayBeTyped_13 : decode b_VS_mayBeTyped 13 = .ok (.bipush 126, 2) := by decide +kernel
theorem d_VS_mayBeTyped_15 : decode b_VS_mayBeTyped 15 = .ok (.if_icmp .gt 7, 3) := by decide +kernel
theorem d_VS_type_62 : decode b_VS_type 62 = .ok (.iload 4, 2) := by decide +kernel
theorem d_VS_type_64 : decode b_VS_type 64 = .ok (.ifCond .lt 23, 3) := by decide +kernel
theorem d_VS_type_87 : decode b_VS_type 87 = .ok (.iconst 1, 1) := by decide +kernel
theorem d_VS_type_88 : decode b_VS_type 88 = .ok (.ireturn, 1) := by decide +kernel
theorem d_VS_type_67 : decode b_VS_type 67 = .ok (.aload_n 0, 1) := by decide +kernel
theorem d_VS_type_68 : decode b_VS_type 68 = .ok (.getfield 12, 3) := by decide +kernel
theorem d_VS_type_71 : decode b_VS_type 71 = .ok (.lload_n 1, 1) := by decide +kernel
theorem d_VS_type_72 : decode b_VS_type 72 = .ok (.iload 4, 2) := by decide +kernel
theorem d_VS_type_74 : decode b_VS_type 74 = .ok (.invokestatic 62, 3) := by decide +kernel
theorem d_VS_type_77 : decode b_VS_type 77 = .ok (.i2c, 1) := by decide +kernel
theorem d_VS_type_78 : decode b_VS_type 78 = .ok (.invokevirtual 70, 3) := by decide +kernel
theorem d_VS_type_81 : decode b_VS_type 81 = .ok (.iinc 4 (-1), 3) := by decide +kernel
theorem d_VS_type_84 : decode b_VS_type 84 = .ok (.goto (-22), 3) := by decide +kernel
theorem d_VS_type_31 : decode b_VS_type 31 = .ok (.iload 4, 2) := by decide +kernel
theorem d_VS_type_33 : decode b_VS_type 33 = .ok (.iload_n 3, 1) := by decide +kernel
theorem d_VS_type_34 : decode b_VS_type 34 = .ok (.if_icmp .ge 23, 3) := by decide +kernel
theorem d_VS_type_57 : decode b_VS_type 57 = .ok (.iload_n 3, 1) := by decide +kernel
theorem d_VS_type_58 : decode b_VS_type 58 = .ok (.iconst 1, 1) := by decide +kernel
theorem d_VS_type_59 : decode b_VS_type 59 = .ok (.isub, 1) := by decide +kernel
theorem d_VS_type_60 : decode b_VS_type 60 = .ok (.istore 4, 2) := by decide +kernel
theorem d_VS_type_37 : decode b_VS_type 37 = .ok (.lload_n 1, 1) := by decide +kernel
theorem d_VS_type_38 : decode b_VS_type 38 = .ok (.iload 4, 2) := by decide +kernel
theorem d_VS_type_40 : decode b_VS_type 40 = .ok (.invokestatic 62, 3) := by decide +kernel
theorem d_VS_type_43 : decode b_VS_type 43 = .ok (.invokestatic 66, 3) := by decide +kernel
theorem d_VS_type_46 : decode b_VS_type 46 = .ok (.ifCond .ne 5, 3) := by decide +kernel
theorem d_VS_type_51 : decode b_VS_type 51 = .ok (.iinc 4 1, 3) := by decide +kernel
theorem d_VS_type_54 : decode b_VS_type 54 = .ok (.goto (-23), 3) := by decide +kernel
theorem d_VS_type_49 : decode b_VS_type 49 = .ok (.iconst 0, 1) := by decide +kernel
theorem d_VS_type_50 : decode b_VS_type 50 = .ok (.ireturn, 1) := by decide +kernel
theorem d_VS_type_0 : decode b_VS_type 0 = .ok (.iload_n 3, 1) := by decide +kernel
theorem d_VS_type_1 : decode b_VS_type 1 = .ok (.iconst 1, 1) := by decide +kernel
theorem d_VS_type_2 : decode b_VS_type 2 = .ok (.if_icmp .lt 24, 3) := by decide +kernel
theorem d_VS_type_26 : decode b_VS_type 26 = .ok (.iconst 0, 1) := by decide +kernel
theorem d_VS_type_27 : decode b_VS_type 27 = .ok (.ireturn, 1) := by decide +kernel
theorem d_VS_type_5 : decode b_VS_type 5 = .ok (.iload_n 3, 1) := by decide +kernel
theorem d_VS_type_6 : decode b_VS_type 6 = .ok (.bipush 8, 2) := by decide +kernel
theorem d_VS_type_8 : decode b_VS_type 8 = .ok (.if_icmp .gt 18, 3) := by decide +kernel
theorem d_VS_type_11 : decode b_VS_type 11 = .ok (.aload_n 0, 1) := by decide +kernel
theorem d_VS_type_12 : decode b_VS_type 12 = .ok (.getfield 12, 3) := by decide +kernel
theorem d_VS_type_15 : decode b_VS_type 15 = .ok (.getfield 59, 3) := by decide +kernel
theorem d_VS_type_18 : decode b_VS_type 18 = .ok (.iload_n 3, 1) := by decide +kernel
theorem d_VS_type_19 : decode b_VS_type 19 = .ok (.iadd, 1) := by decide +kernel
theorem d_VS_type_20 : decode b_VS_type 20 = .ok (.sipush 300, 3) := by decide +kernel
theorem d_VS_type_23 : decode b_VS_type 23 = .ok (.if_icmp .le 5, 3) := by decide +kernel
theorem d_VS_type_28 : decode b_VS_type 28 = .ok (.iconst 0, 1) := by decide +kernel
theorem d_VS_type_29 : decode b_VS_type 29 = .ok (.istore 4, 2) := by decide +kernel
set_option maxRecDepth 20000 in
theorem w_178 : Cond.code ⟨"VaryStore", "byteOf", "(JI)I"⟩ prog_1_method_12_code 3 (some .int) ∈ TB := tb_in 178 (by decide +kernel) (by decide +kernel)
set_option maxRecDepth 20000 in
theorem w_176 : Cond.methodLink "VaryStore" 62 ⟨"VaryStore", "byteOf", "(JI)I"⟩ ∈ TB := tb_in 176 (by decide +kernel) (by decide +kernel)
set_option maxRecDepth 20000 in
theorem w_177 : Cond.static ⟨"VaryStore", "byteOf", "(JI)I"⟩ ∈ TB := tb_in 177 (by decide +kernel) (by decide +kernel)
set_option maxRecDepth 20000 in
theorem w_182 : Cond.methodLink "VaryStore" 70 ⟨"VaryStore$Row", "add", "(C)V"⟩ ∈ TB := tb_in 182 (by decide +kernel) (by decide +kernel)
set_option maxRecDepth 20000 in
theorem w_181 : Cond.code ⟨"VaryStore", "mayBeTyped", "(I)Z"⟩ prog_1_method_13_code 1 (some .boolean) ∈ TB := tb_in 181 (by decide +kernel) (by decide +kernel)
set_option maxRecDepth 20000 in
theorem w_179 : Cond.methodLink "VaryStore" 66 ⟨"VaryStore", "mayBeTyped", "(I)Z"⟩ ∈ TB := tb_in 179 (by decide +kernel) (by decide +kernel)
set_option maxRecDepth 20000 in
theorem w_180 : Cond.static ⟨"VaryStore", "mayBeTyped", "(I)Z"⟩ ∈ TB := tb_in 180 (by decide +kernel) (by decide +kernel)
def wsh (w : Int64) (i : Int) : Int64 := (w.toUInt64 >>> ((iI (8 * i)).toInt64.toUInt64 &&& Int64.toUInt64 63)).toInt64
def wbz (w : Int64) (i : Int) : Int := ((wsh w i).toInt32 &&& iI 255).toInt
theorem wbz_rng (w : Int64) (i : Int) : 0 ≤ wbz w i ∧ wbz w i < 256 := by
  obtain ⟨j, h1, h2⟩ := and255 (wsh w i).toInt32
  unfold wbz
  rw [h2, iI_toInt (by omega) (by omega)]
  omega
theorem wbz_c (w : Int64) (i : Int) : iI ((wsh w i).toInt32.toInt) &&& iI 255 = iI (wbz w i) := by
  rw [iI_of]; exact (iI_of _).symm
theorem wbz_m (w : Int64) (i : Int) : (wsh w i &&& 255).toInt32 = iI (wbz w i) := by
  rw [Int64.toInt32_and]; exact (iI_of _).symm
theorem i2c_int {z : Int} (h1 : 0 ≤ z) (h2 : z < 65536) : ((iI z).toUInt32 % 65536).toInt32 = iI z := by
  obtain ⟨j, rfl⟩ := Int.eq_ofNat_of_zero_le h1
  exact i2c_nat (by omega)
def okc (c : Int) : Prop := c = 10 ∨ (32 ≤ c ∧ c ≤ 126)
def typeOK (w : Int64) (k : Int) : Prop := 1 ≤ k ∧ k ≤ 8 ∧ ∀ j : Int, 0 ≤ j → j < k → okc (wbz w j)
def k_VS_byteOf : MS := ("VaryStore", b_VS_byteOf, 3, (some .int), "byteOf", { frames := 0, cells := 0, slots := 0, locals := 0 }, [])
set_option maxRecDepth 100000 in
set_option maxHeartbeats 4000000 in
theorem c_VS_byteOf (Γ : GE) (w : Int64) (i : Int) {M : HM} {n : Nat}   : CT Γ k_VS_byteOf y_VS_byteOf [.long (w), .int (iI (i))] M (n) (fun v M' n' => n = n' ∧ (∀ q, M' q = M q) ∧ v = some (.int (iI (wbz w i)))) := by
  refine CT.of (by decide) rfl rfl 0 rfl (Nat.le_of_ble_eq_true rfl) rfl ?_
  refine g_lload_n d_VS_byteOf_0 rfl ?_
  refine g_bipush d_VS_byteOf_1 (by decide) ?_
  refine g_iload_n d_VS_byteOf_3 rfl ?_
  refine g_imul d_VS_byteOf_4 ?_
  refine g_lushr d_VS_byteOf_5 rfl ?_
  refine g_l2i d_VS_byteOf_6 (iI_of _).symm ?_
  refine g_sipush d_VS_byteOf_7 (by decide) ?_
  refine g_iand (z := wbz w i) d_VS_byteOf_10 (wbz_c w i) ?_
  refine g_iret d_VS_byteOf_11 rfl ?_ (by decide) (by decide)
  exact ⟨rfl, fun q  => rfl, rfl⟩
def k_VS_mayBeTyped : MS := ("VaryStore", b_VS_mayBeTyped, 1, (some .boolean), "mayBeTyped", { frames := 0, cells := 0, slots := 0, locals := 0 }, [])
set_option maxRecDepth 100000 in
set_option maxHeartbeats 4000000 in
theorem c_VS_mayBeTyped (Γ : GE) (c : Int) {M : HM} {n : Nat} (c0 : 0 ≤ c) (c1 : c < 256)  : CT Γ k_VS_mayBeTyped y_VS_mayBeTyped [.int (iI (c))] M (n) (fun v M' n' => n = n' ∧ (∀ q, M' q = M q) ∧ ((v = some (.int (iI 1)) ∧ okc c) ∨ (v = some (.int (iI 0)) ∧ ¬ okc c))) := by
  refine CT.of (by decide) rfl rfl 0 rfl (Nat.le_of_ble_eq_true rfl) rfl ?_
  refine g_iload_n d_VS_mayBeTyped_0 rfl ?_
  refine g_bipush d_VS_mayBeTyped_1 (by decide) ?_
  refine g_icmp_eq (tgt := 18) d_VS_mayBeTyped_3 (by decide) (fun h1 => ?_) (fun h1 => ?_)
  · skip
    refine g_iconst d_VS_mayBeTyped_18 ?_
    refine g_goto (tgt := 23) d_VS_mayBeTyped_19 (by decide) ?_
    refine g_zret (ty := .boolean) (by first | rfl | decide) d_VS_mayBeTyped_23 rfl ?_ (by decide) (by decide)
    exact ⟨rfl, fun q => rfl, Or.inl ⟨rfl, by unfold okc; omega⟩⟩
  · skip
    refine g_iload_n d_VS_mayBeTyped_6 rfl ?_
    refine g_bipush d_VS_mayBeTyped_7 (by decide) ?_
    refine g_icmp_lt (tgt := 22) d_VS_mayBeTyped_9 (by decide) (fun h2 => ?_) (fun h2 => ?_)
    · skip
      refine g_iconst d_VS_mayBeTyped_22 ?_
      refine g_zret (ty := .boolean) (by first | rfl | decide) d_VS_mayBeTyped_23 rfl ?_ (by decide) (by decide)
      exact ⟨rfl, fun q => rfl, Or.inr ⟨rfl, by unfold okc; omega⟩⟩
    · skip
      refine g_iload_n d_VS_mayBeTyped_12 rfl ?_
      refine g_bipush d_VS_mayBeTyped_13 (by decide) ?_
      refine g_icmp_gt (tgt := 22) d_VS_mayBeTyped_15 (by decide) (fun h3 => ?_) (fun h3 => ?_)
      · skip
        refine g_iconst d_VS_mayBeTyped_22 ?_
        refine g_zret (ty := .boolean) (by first | rfl | decide) d_VS_mayBeTyped_23 rfl ?_ (by decide) (by decide)
        exact ⟨rfl, fun q => rfl, Or.inr ⟨rfl, by unfold okc; omega⟩⟩
      · skip
        refine g_iconst d_VS_mayBeTyped_18 ?_
        refine g_goto (tgt := 23) d_VS_mayBeTyped_19 (by decide) ?_
        refine g_zret (ty := .boolean) (by first | rfl | decide) d_VS_mayBeTyped_23 rfl ?_ (by decide) (by decide)
        exact ⟨rfl, fun q => rfl, Or.inl ⟨rfl, by unfold okc; omega⟩⟩
def Q_VS_type (Γ : GE) (M : HM) (n b : Nat) (w : Int64) (k : Int) : Option Value → HM → Nat → Prop := fun v M' n' => n = n' ∧ (∀ q, q ≠ b + 1 → q ≠ b + 2 → M' q = M q) ∧ ((v = some (.int (iI 1)) ∧ typeOK w k) ∨ (v = some (.int (iI 0)) ∧ ¬ typeOK w k))
def k_VS_type : MS := ("VaryStore", b_VS_type, 5, (some .boolean), "type", { frames := 1, cells := 0, slots := 0, locals := 22 }, [])
set_option maxRecDepth 100000 in
set_option maxHeartbeats 4000000 in
theorem c_VS_type (Γ : GE) (b : Nat) (rq : Nat) (dr : Nat) (fp : Int) (tm : Int) (w : Int64) (k : Int) (f : Nat → Int32) {M : HM} {n : Nat} (ka : -2147483648 ≤ k) (kb : k < 2147483648) (p0 : M (b) = some (.inr (0, [.ref (b + 1), .ref (b + 3), .ref (rq), .ref (dr), .int (iI (fp)), .int (iI (tm)), .ref (b + 17), .ref (b + 19), .ref (b + 21), .ref (b + 25), .ref (b + 29)]))) (p1 : M (b + 1) = some (.inr (2, [.ref (b + 2), .int (iI (0))]))) (p2 : M (b + 1 + 1) = some (.inl (Γ.2.2.1 0, 300, .inl (f)))) : CT Γ k_VS_type y_VS_type [.ref (b), .long (w), .int (iI (k))] M (n) (Q_VS_type Γ M n b w k) := by
  refine CT.of (by decide) rfl rfl 1 rfl (Nat.le_of_ble_eq_true rfl) rfl ?_
  have loop2 : 1 ≤ k → k ≤ 8 → (∀ j : Int, 0 ≤ j → j < k → okc (wbz w j)) → ∀ (kk : Nat) (i z : Int) (f1 : Nat → Int32) (M1 : HM), -1 ≤ i → i < k → i + 1 < (kk : Int) → z = k - 1 - i → 0 ≤ z → (∀ q, q ≠ b + 1 → q ≠ b + 2 → M1 q = M q) → M1 (b) = some (.inr (0, [.ref (b + 1), .ref (b + 3), .ref (rq), .ref (dr), .int (iI (fp)), .int (iI (tm)), .ref (b + 17), .ref (b + 19), .ref (b + 21), .ref (b + 25), .ref (b + 29)])) → M1 (b + 1) = some (.inr (2, [.ref (b + 2), .int (iI (z))])) → M1 (b + 1 + 1) = some (.inl (Γ.2.2.1 0, 300, .inl (f1))) → G Γ k_VS_type (AA M n) (EM Γ k_VS_type (AA M n) (Q_VS_type Γ M n b w k)) 0 0 M1 n 62 [some (.ref (b)), some (.long (w)), none, some (.int (iI (k))), some (.int (iI (i)))] [] := by
    intro hk1 hk8 hok kk
    induction kk with
    | zero => intro i z f1 M1 y1 y2 y3 y4 y5; omega
    | succ kk ih =>
      intro i z f1 M1 y1 y2 y3 y4 y5 hfr q0 q1 q2
      refine g_iload d_VS_type_62 rfl ?_
      refine g_if_lt (tgt := 87) d_VS_type_64 (by decide) (fun h101 => ?_) (fun h101 => ?_)
      · skip
        refine g_iconst d_VS_type_87 ?_
        refine g_zret (ty := .boolean) (by first | rfl | decide) d_VS_type_88 rfl ?_ (by decide) (by decide)
        exact ⟨rfl, fun q e0 e1 => (hfr q e0 e1), Or.inl ⟨rfl, hk1, hk8, hok⟩⟩
      · skip
        refine g_aload_n d_VS_type_67 rfl ?_
        refine g_get fa_VS_12 d_VS_type_68 q0 rfl ?_
        refine g_lload_n d_VS_type_71 rfl ?_
        refine g_iload d_VS_type_72 rfl ?_
        refine g_callS2 (ν := k_VS_byteOf) ⟨w_176, w_30, w_178, by decide, by decide, by decide +kernel⟩ w_177 (c_VS_byteOf Γ (w) (i)  ) d_VS_type_74 ⟨⟨by decide, by decide⟩, ⟨by decide, by decide⟩⟩ (Nat.le_of_ble_eq_true rfl) (fun v102 M102 n102 hQ102 hn102 hd102 => ?_)
        obtain ⟨rfl, hf102, rfl⟩ := hQ102
        have hr102 := wbz_rng w i
        refine g_i2c d_VS_type_77 (i2c_int (by omega) (by omega)) ?_
        refine g_callV1 (ν := k_Ro_add) ⟨w_182, w_31, w_185, by decide, by decide, by decide +kernel⟩ w_183 w_184 (c_Ro_add Γ (b + 1) (z) (wbz w i) (f1) (by omega) (by omega) (by omega) (by omega) ((hf102 ((b + 1)) ).trans q1) ((hf102 ((b + 1) + 1) ).trans q2)) d_VS_type_78 ((hf102 (b + 1) ).trans q1) rfl rfl ⟨⟨by decide, by decide⟩, ⟨by decide, by decide⟩⟩ (Nat.le_of_ble_eq_true rfl) (fun v103 M103 n103 hQ103 hn103 hd103 => ?_)
        obtain ⟨rfl, hf103, rfl, hw103_0, hw103_1⟩ := hQ103
        refine g_iinc d_VS_type_81 rfl (by decide) rfl ?_
        refine g_goto (tgt := 62) d_VS_type_84 (by decide) ?_
        exact ih (i + (-1)) ((z + 1)) _ _ (by omega) (by omega) (by omega) (by omega) (by omega) (fun q e0 e1 => ((hf103 q (by omega) (by omega)).trans ((hf102 q ).trans (hfr q e0 e1)))) ((hf103 (b) (by omega) (by omega)).trans ((hf102 (b) ).trans q0)) hw103_1 hw103_0
  have loop1 : 1 ≤ k → k ≤ 8 → ∀ (kk : Nat) (i : Int) (M1 : HM), 0 ≤ i → i ≤ k → k - i < (kk : Int) → -1 ≤ i → (∀ j : Int, 0 ≤ j → j < i → okc (wbz w j)) → (∀ q, q ≠ b + 1 → q ≠ b + 2 → M1 q = M q) → M1 (b) = some (.inr (0, [.ref (b + 1), .ref (b + 3), .ref (rq), .ref (dr), .int (iI (fp)), .int (iI (tm)), .ref (b + 17), .ref (b + 19), .ref (b + 21), .ref (b + 25), .ref (b + 29)])) → M1 (b + 1) = some (.inr (2, [.ref (b + 2), .int (iI (0))])) → M1 (b + 1 + 1) = some (.inl (Γ.2.2.1 0, 300, .inl (f))) → G Γ k_VS_type (AA M n) (EM Γ k_VS_type (AA M n) (Q_VS_type Γ M n b w k)) 0 0 M1 n 31 [some (.ref (b)), some (.long (w)), none, some (.int (iI (k))), some (.int (iI (i)))] [] := by
    intro hk1 hk8 kk
    induction kk with
    | zero => intro i M1 y1 y2 y3; omega
    | succ kk ih =>
      intro i M1 y1 y2 y3 y4 hok hfr q0 q1 q2
      refine g_iload d_VS_type_31 rfl ?_
      refine g_iload_n d_VS_type_33 rfl ?_
      refine g_icmp_ge (tgt := 57) d_VS_type_34 (by decide) (fun h201 => ?_) (fun h201 => ?_)
      · skip
        refine g_iload_n d_VS_type_57 rfl ?_
        refine g_iconst d_VS_type_58 ?_
        refine g_isub d_VS_type_59 ?_
        refine g_istore d_VS_type_60 (by decide) rfl ?_
        exact loop2 (by omega) (by omega) (fun j u1 u2 => hok j u1 (by omega)) 20 ((k - 1)) (0) _ _ (by omega) (by omega) (by omega) (by omega) (by omega) (fun q e0 e1 => (hfr q e0 e1)) q0 q1 q2
      · skip
        refine g_lload_n d_VS_type_37 rfl ?_
        refine g_iload d_VS_type_38 rfl ?_
        refine g_callS2 (ν := k_VS_byteOf) ⟨w_176, w_30, w_178, by decide, by decide, by decide +kernel⟩ w_177 (c_VS_byteOf Γ (w) (i)  ) d_VS_type_40 ⟨⟨by decide, by decide⟩, ⟨by decide, by decide⟩⟩ (Nat.le_of_ble_eq_true rfl) (fun v202 M202 n202 hQ202 hn202 hd202 => ?_)
        obtain ⟨rfl, hf202, rfl⟩ := hQ202
        have hr202 := wbz_rng w i
        refine g_callS1 (ν := k_VS_mayBeTyped) ⟨w_179, w_30, w_181, by decide, by decide, by decide +kernel⟩ w_180 (c_VS_mayBeTyped Γ (wbz w i) (by omega) (by omega) ) d_VS_type_43 ⟨⟨by decide, by decide⟩, ⟨by decide, by decide⟩⟩ (Nat.le_of_ble_eq_true rfl) (fun v203 M203 n203 hQ203 hn203 hd203 => ?_)
        obtain ⟨rfl, hf203, hor203⟩ := hQ203
        rcases hor203 with ⟨rfl, hc203⟩ | ⟨rfl, hc203⟩
        · skip
          refine g_if_ne (tgt := 51) d_VS_type_46 (by decide) (fun _ => ?_) (fun h204 => False.elim (by omega))
          refine g_iinc d_VS_type_51 rfl (by decide) rfl ?_
          refine g_goto (tgt := 31) d_VS_type_54 (by decide) ?_
          exact ih (i + 1) _ (by omega) (by omega) (by omega) (by omega) (fun j u1 u2 => if hj : j < i then hok j u1 hj else (show j = i by omega) ▸ hc203) (fun q e0 e1 => ((hf203 q ).trans ((hf202 q ).trans (hfr q e0 e1)))) ((hf203 (b) ).trans ((hf202 (b) ).trans q0)) ((hf203 (b + 1) ).trans ((hf202 (b + 1) ).trans q1)) ((hf203 (b + 1 + 1) ).trans ((hf202 (b + 1 + 1) ).trans q2))
        · skip
          refine g_if_ne (tgt := 51) d_VS_type_46 (by decide) (fun h205 => False.elim (by omega)) (fun _ => ?_)
          refine g_iconst d_VS_type_49 ?_
          refine g_zret (ty := .boolean) (by first | rfl | decide) d_VS_type_50 rfl ?_ (by decide) (by decide)
          exact ⟨rfl, fun q e0 e1 => ((hf203 q ).trans ((hf202 q ).trans (hfr q e0 e1))), Or.inr ⟨rfl, fun h => absurd (h.2.2 i (by omega) (by omega)) hc203⟩⟩
  refine g_iload_n d_VS_type_0 rfl ?_
  refine g_iconst d_VS_type_1 ?_
  refine g_icmp_lt (tgt := 26) d_VS_type_2 (by decide) (fun h1 => ?_) (fun h1 => ?_)
  · skip
    refine g_iconst d_VS_type_26 ?_
    refine g_zret (ty := .boolean) (by first | rfl | decide) d_VS_type_27 rfl ?_ (by decide) (by decide)
    exact ⟨rfl, fun q e0 e1 => rfl, Or.inr ⟨rfl, fun h => by have h1 := h.1; have h2 := h.2.1; omega⟩⟩
  · skip
    refine g_iload_n d_VS_type_5 rfl ?_
    refine g_bipush d_VS_type_6 (by decide) ?_
    refine g_icmp_gt (tgt := 26) d_VS_type_8 (by decide) (fun h2 => ?_) (fun h2 => ?_)
    · skip
      refine g_iconst d_VS_type_26 ?_
      refine g_zret (ty := .boolean) (by first | rfl | decide) d_VS_type_27 rfl ?_ (by decide) (by decide)
      exact ⟨rfl, fun q e0 e1 => rfl, Or.inr ⟨rfl, fun h => by have h1 := h.1; have h2 := h.2.1; omega⟩⟩
    · skip
      refine g_aload_n d_VS_type_11 rfl ?_
      refine g_get fa_VS_12 d_VS_type_12 p0 rfl ?_
      refine g_get fa_VS_59 d_VS_type_15 p1 rfl ?_
      refine g_iload_n d_VS_type_18 rfl ?_
      refine g_iadd d_VS_type_19 ?_
      refine g_sipush d_VS_type_20 (by decide) ?_
      refine g_icmp_le (tgt := 28) d_VS_type_23 (by decide) (fun h3 => ?_) (fun h3 => False.elim (by omega))
      refine g_iconst d_VS_type_28 ?_
      refine g_istore d_VS_type_29 (by decide) rfl ?_
      exact loop1 (by omega) (by omega) 20 0 _ (by omega) (by omega) (by omega) (by omega) (fun j u1 u2 => by omega) (fun q e0 e1 => rfl) p0 p1 p2
