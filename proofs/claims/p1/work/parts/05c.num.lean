theorem i2c_nat {j : Nat} (h : j < 65536) : ((iI (j : Nat)).toUInt32 % 65536).toInt32 = iI (j : Nat) := by
  rw [← iI_nI, pk_char, pk_tn (by omega), Nat.mod_eq_of_lt h]
theorem nar_char {j : Nat} (h : j < 65536) : narrow .char (.int (iI (j : Nat))) = .int (iI (j : Nat)) := by
  rw [← iI_nI]; exact (pk_charN h).1
theorem nar_charZ {z : Int} (h1 : 0 ≤ z) (h2 : z < 65536) : narrow .char (.int (iI z)) = .int (iI z) := by
  obtain ⟨j, rfl⟩ := Int.eq_ofNat_of_zero_le h1
  exact nar_char (by omega)
theorem lenLit_le (i : Nat) : lenLit.getD i 0 ≤ 40 := by
  have h : ∀ j, j < 22 → lenLit.getD j 0 ≤ 40 := by decide
  by_cases hi : i < 22
  · exact h i hi
  · have e : lenLit.getD i 0 = 0 := by
      rw [List.getD_eq_getElem?_getD, List.getElem?_eq_none (by show 22 ≤ i; omega)]; rfl
    omega
theorem and255 (x : Int32) : ∃ j : Nat, j < 256 ∧ x &&& iI 255 = iI (j : Nat) := by
  obtain ⟨j, h1, h2⟩ := pk_andE x (m := iI 255) 8 (by decide)
  exact ⟨j, h1, by rw [h2, iI_nI]⟩
theorem shr0 (x : Int32) : x >>> (iI 0 &&& 31) = x := sb_shr0 x
theorem g_ldcSW {Γ : GE} {μ : MS} {A : Nat → Prop} {E : List Frame → Array Value → State → State → Prop} {ce sl : Nat} {M : HM} {n pc : Nat} {vs : List (Option Value)} {st : List Value} {is lit : Nat} {text : String} (hlit : (μ.1, is, text, lit) ∈ litL) (hd : decode μ.2.1 pc = .ok (.ldc_w is, 3)) (k : G Γ μ A E ce sl M n (pc + 3) vs (.ref (Γ.2.2.2.1 lit) :: st)) : G Γ μ A E ce sl M n pc vs st := by
  intro p e s m args below meth c H locs ls CC h1 h2 h3 h4 h5
  obtain ⟨c1, c2, c3, c4, c5, c6, c7, c8, c9, c10, c11, c12, c13⟩ := id CC
  intro T hT X
  obtain ⟨t, a1, b1⟩ := k p e s m args below meth c H locs ls CC h1 h2 h3 h4 h5 T hT X
  exact ⟨t, X.ldcStringW c1 c4 (text := text) (a := Γ.2.2.2.1 lit) (c11.2.1 _ hlit).1 (c11.2.1 _ hlit).2 (g := F0 m pc ls st) rfl (by rw [c2]; exact hd) t a1, b1⟩
theorem g_lcmp {Γ : GE} {μ : MS} {A : Nat → Prop} {E : List Frame → Array Value → State → State → Prop} {ce sl : Nat} {M : HM} {n pc : Nat} {vs : List (Option Value)} {st : List Value} {x y : Int64} (hd : decode μ.2.1 pc = .ok (.lcmp, 1)) (k : ∀ z : Int, -1 ≤ z → z ≤ 1 → G Γ μ A E ce sl M n (pc + 1) vs (.int (iI z) :: st)) : G Γ μ A E ce sl M n pc vs (.long y :: .long x :: st) := by
  intro p e s m args below meth c H locs ls CC h1 h2 h3 h4 h5
  obtain ⟨c1, c2, c3, c4, c5, c6, c7, c8, c9, c10, c11, c12, c13⟩ := id CC
  have hz : ∃ z : Int, -1 ≤ z ∧ z ≤ 1 ∧ lg_cmp x y = iI z := by
    unfold lg_cmp
    split
    · exact ⟨1, by omega, by omega, rfl⟩
    · split
      · exact ⟨0, by omega, by omega, rfl⟩
      · exact ⟨-1, by omega, by omega, rfl⟩
  obtain ⟨z, z1, z2, ez⟩ := hz
  refine W.lcmp c1 c2 hd ?_
  rw [ez]
  exact k z z1 z2 p e s m args below meth c H locs ls CC h1 h2 h3 h4 h5
