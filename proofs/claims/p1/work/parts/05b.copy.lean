/-! ===== System.arraycopy between two arrays of ints or chars ===== -/
theorem g_copy {Γ : GE} {μ : MS} {A : Nat → Prop} {E : List Frame → Array Value → State → State → Prop} {ce sl : Nat} {M : HM} {n pc : Nat} {vs : List (Option Value)} {st : List Value}
    {index a0 a n0 n1 : Nat} (t : Nat) {ty : FieldType} {f g : Nat → Int32} {sp dp k : Nat} (ht : (tyL Γ.2.2.1)[t]? = some (Γ.2.2.1 t, ty)) (hprim : refKind ty = false) (hd : decode μ.2.1 pc = .ok (.invokestatic index, 3)) (hl : Cond.methodLink μ.1 index arraycopyName ∈ TB) (hnat : Cond.native arraycopyName ∈ TB) (hstat : Cond.static arraycopyName ∈ TB) (hini : Cond.initialized "java/lang/System" ∈ TB)
    (ha0 : M a0 = some (.inl (Γ.2.2.1 t, n0, .inl f))) (ha1 : M a = some (.inl (Γ.2.2.1 t, n1, .inl g))) (h4 : sp + k ≤ n0) (h5 : dp + k ≤ n1) (hn0 : n0 < 2147483648) (hn1 : n1 < 2147483648) (hfit : ∀ i, i < k → fits ty (.int (f (sp + i))) = true)
    (hfr : 1 ≤ μ.2.2.2.2.2.1.frames) (hlo : (st.map fun v => v.category).sum + (nativeFrameWords "java/lang/System" "arraycopy" 5 + 11) ≤ μ.2.2.2.2.2.1.locals)
    (kk : G Γ μ A E ce sl (hu M a (.inl (Γ.2.2.1 t, n1, .inl (va_cpy f g sp dp k)))) n (pc + 3) vs st) : G Γ μ A E ce sl M n pc vs (.int (iI (k : Nat)) :: .int (iI (dp : Nat)) :: .ref a :: .int (iI (sp : Nat)) :: .ref a0 :: st) := by
  intro p e s m args below meth c H locs ls CC h1 h2 h3 hS hv
  obtain ⟨c1, c2, c3, c4, c5, c6, c7, c8, c9, c10, c11, c12, c13⟩ := id CC
  intro T hT X
  have hc0 : H[a0]? = some (vp_cell (Γ.2.2.1 t) (n0, .inl f)) := h1 a0 _ ha0
  have hc1 : H[a]? = some (vp_cell (Γ.2.2.1 t) (n1, .inl g)) := h1 a _ ha1
  have hA : A a := h3 a (by rw [ha1]; simp)
  obtain ⟨-, k0, hk0, cm0, hkk0⟩ := (c9.2 t _ ht).1 n0 (fun j => .int (f j))
  obtain ⟨-, k1, hk1, cm1, hkk1⟩ := (c9.2 t _ ht).1 n1 (fun j => .int (g j))
  have ng : ∀ z : Nat, z < 2147483648 → ¬ iI (z : Nat) < 0 := by
    intro z hz
    rw [show (0 : Int32) = iI 0 from rfl, iI_lt (by omega) (by omega) (by omega) (by omega)]; omega
  have cl : ∀ z : Nat, z < 2147483648 → (iI (z : Nat)).toNatClampNeg = z := by
    intro z hz
    rw [iI_clamp (by omega) (by omega)]; rfl
  have ti : ∀ z : Nat, z < 2147483648 → (iI (z : Nat)).toInt = z := fun z hz => iI_toInt (by omega) (by omega)
  obtain ⟨vm', X', step⟩ := X.arraycopy c1 c4 (c5 _ hl) (c5 _ hnat) (c5 _ hstat) (c5 _ hini) (src := a0) (dst := a) (cs := vp_cell (Γ.2.2.1 t) (n0, .inl f)) (cd := vp_cell (Γ.2.2.1 t) (n1, .inl g)) (srcPos := iI (sp : Nat)) (destPos := iI (dp : Nat)) (n := iI (k : Nat)) (by rw [hT]; exact hc0) (by rw [hT]; exact hc1)
    (fun _ h => by cases h) (fun _ h => by cases h) (fun h => by cases h) (fun h => by cases h) hk0 hk1 hkk0 hkk1 (by simp [hprim]) (ng sp (by omega)) (ng dp (by omega)) (ng k (by omega))
    (by rw [ti sp (by omega), ti k (by omega)]; show ¬ _ > ((arrV _ n0 (fun j => .int (f j))).slots.size : Int); rw [arrV_size]; omega)
    (by rw [ti dp (by omega), ti k (by omega)]; show ¬ _ > ((arrV _ n1 (fun j => .int (g j))).slots.size : Int); rw [arrV_size]; omega)
    (fun vm₁ _ i hi => by
      rw [cl k (by omega)] at hi
      rw [cl sp (by omega)]
      have e : (vp_cell (Γ.2.2.1 t) (n0, .inl f)).slots.getD (sp + i) .null = .int (f (sp + i)) := by
        show (arrV (Γ.2.2.1 t) n0 (fun j => .int (f j))).slots.getD _ _ = _
        rw [Array.getD_eq_getD_getElem?, arrV_read _ _ (by omega)]
        rfl
      refine ⟨?_, ?_⟩
      · rw [e]
        exact hfit i hi
      · rw [e]
        exact trivial)
    (g := F0 m pc ls (.int (iI (k : Nat)) :: .int (iI (dp : Nat)) :: .ref a :: .int (iI (sp : Nat)) :: .ref a0 :: st)) rfl (by rw [c3]; exact hv.1) (rest := st) rfl (by rw [c2]; exact hd) hfr (by show 2 * 0 + _ + _ ≤ _; omega)
  have e1 : copied (vp_cell (Γ.2.2.1 t) (n0, .inl f)) (vp_cell (Γ.2.2.1 t) (n1, .inl g)) (iI (sp : Nat)) (iI (dp : Nat)) (iI (k : Nat)) = vp_cell (Γ.2.2.1 t) (n1, .inl (va_cpy f g sp dp k)) := by
    have h9 := va_copied (fun z => Value.int z) (Γ.2.2.1 t) (Γ.2.2.1 t) (n0 := n0) (n1 := n1) (sp := sp) (dp := dp) (n := k) f g h4
    show (arrV (Γ.2.2.1 t) n1 (fun j => .int (g j))).storeRun (iI (dp : Nat)).toNatClampNeg ((arrV (Γ.2.2.1 t) n0 (fun j => .int (f j))).stretch (iI (sp : Nat)).toNatClampNeg (iI (k : Nat)).toNatClampNeg) = _
    rw [cl sp (by omega), cl dp (by omega), cl k (by omega)]
    exact h9
  rw [e1] at X' step
  have hlt : a < H.size := (Array.getElem?_eq_some_iff.mp hc1).1
  have hheap : ((T.setVm vm').setCell a (vp_cell (Γ.2.2.1 t) (n1, .inl (va_cpy f g sp dp k)))).heap = H.setIfInBounds a (vp_cell (Γ.2.2.1 t) (n1, .inl (va_cpy f g sp dp k))) := by rw [← hT]; rfl
  have oq : ∀ q : Nat, q ≠ a → (H.setIfInBounds a (vp_cell (Γ.2.2.1 t) (n1, .inl (va_cpy f g sp dp k))))[q]? = H[q]? := fun q hq => by simp [Array.getElem?_setIfInBounds, Ne.symm hq]
  obtain ⟨t9, a1, b1⟩ := kk p e s m args below meth c _ _ ls CC (h1.put (show (H.setIfInBounds a _)[a]? = some _ by simp [Array.getElem?_setIfInBounds, hlt]) oq) (by simp; exact h2) (hu_dom h3 hA) ⟨by simp; exact hS.1, fun q g1 g2 => by
      rw [oq q (fun e => g2 (by rw [e]; exact hA))]
      exact hS.2.1 q g1 g2, fun q hq => by
      rcases List.mem_append.mp hq with h | h
      · exact hS.2.2 q h
      · obtain ⟨z, -, hz⟩ := List.mem_map.mp h
        rw [← hz]
        exact hA⟩ hv _ hheap X'
  exact ⟨t9, step t9 a1, b1⟩
theorem va_cpy0 {α : Type} (f g : Nat → α) (sp dp : Nat) : va_cpy f g sp dp 0 = g := by
  funext j
  unfold va_cpy
  rw [if_neg (by omega)]
