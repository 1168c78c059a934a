theorem i2c_nat {j : Nat} (h : j < 65536) : ((iI (j : Nat)).toUInt32 % 65536).toInt32 = iI (j : Nat) := by
  rw [← iI_nI, pk_char, pk_tn (by omega), Nat.mod_eq_of_lt h]
theorem nar_char {j : Nat} (h : j < 65536) : narrow .char (.int (iI (j : Nat))) = .int (iI (j : Nat)) := by
  rw [← iI_nI]; exact (pk_charN h).1
theorem nar_charZ {z : Int} (h1 : 0 ≤ z) (h2 : z < 65536) : narrow .char (.int (iI z)) = .int (iI z) := by
  obtain ⟨j, rfl⟩ := Int.eq_ofNat_of_zero_le h1
  exact nar_char (by omega)
theorem lenLit_le (i : Nat) : lenLit.getD i 0 ≤ 40 := by
  have h : ∀ j, j < 22 → lenLit.getD j 0 ≤ 40 := by decide
  by_cases hi : i < 22
  · exact h i hi
  · have e : lenLit.getD i 0 = 0 := by
      rw [List.getD_eq_getElem?_getD, List.getElem?_eq_none (by show 22 ≤ i; omega)]; rfl
    omega
theorem and255 (x : Int32) : ∃ j : Nat, j < 256 ∧ x &&& iI 255 = iI (j : Nat) := by
  obtain ⟨j, h1, h2⟩ := pk_andE x (m := iI 255) 8 (by decide)
  exact ⟨j, h1, by rw [h2, iI_nI]⟩
theorem shr0 (x : Int32) : x >>> (iI 0 &&& 31) = x := sb_shr0 x
