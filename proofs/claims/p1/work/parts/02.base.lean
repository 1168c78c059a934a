def nLit : Nat := 22
def lenLit : List Nat := [13, 14, 4, 29, 22, 24, 17, 21, 4, 7, 4, 3, 1, 8, 7, 8, 9, 9, 8, 7, 15, 16]
def bytLit : List (List Int32) := [[99, 97, 99, 104, 101, 45, 99, 111, 110, 116, 114, 111, 108], [111, 110, 108, 121, 45, 105, 102, 45, 99, 97, 99, 104, 101, 100], [101, 116, 97, 103], [115, 111, 32, 109, 97, 110, 121, 32, 115, 101, 99, 111, 110, 100, 115, 32, 99, 97, 110, 32, 110, 111, 116, 32, 103, 111, 32, 98, 121], [116, 104, 101, 114, 101, 32, 105, 115, 32, 110, 111, 32, 115, 117, 99, 104, 32, 116, 104, 105, 110, 103], [97, 32, 116, 104, 105, 110, 103, 32, 104, 97, 115, 32, 110, 111, 116, 104, 105, 110, 103, 32, 115, 117, 99, 104], [116, 104, 101, 32, 116, 101, 120, 116, 32, 105, 115, 32, 119, 114, 111, 110, 103], [116, 104, 101, 114, 101, 32, 105, 115, 32, 110, 111, 32, 115, 117, 99, 104, 32, 112, 97, 116, 104], [118, 97, 114, 121], [101, 120, 112, 105, 114, 101, 115], [100, 97, 116, 101], [97, 103, 101], [42], [110, 111, 45, 115, 116, 111, 114, 101], [109, 97, 120, 45, 97, 103, 101], [110, 111, 45, 99, 97, 99, 104, 101], [109, 97, 120, 45, 115, 116, 97, 108, 101], [109, 105, 110, 45, 102, 114, 101, 115, 104], [115, 45, 109, 97, 120, 97, 103, 101], [112, 114, 105, 118, 97, 116, 101], [109, 117, 115, 116, 45, 114, 101, 118, 97, 108, 105, 100, 97, 116, 101], [112, 114, 111, 120, 121, 45, 114, 101, 118, 97, 108, 105, 100, 97, 116, 101]]
/-- class, place in its pool, text, number of the literal -/
def litL : List (String × Nat × String × Nat) := [("VaryStore", 78, "cache-control", 0), ("VaryStore", 100, "only-if-cached", 1), ("VaryStore", 143, "etag", 2), ("VaryStore", 165, "so many seconds can not go by", 3), ("VaryStore", 172, "there is no such thing", 4), ("VaryStore", 196, "a thing has nothing such", 5), ("VaryStore", 208, "the text is wrong", 6), ("VaryStore", 210, "there is no such path", 7), ("VaryStore", 233, "vary", 8), ("VaryStore", 237, "expires", 9), ("VaryStore", 243, "date", 10), ("VaryStore", 256, "age", 11), ("VaryStore", 266, "*", 12), ("VaryStore", 271, "no-store", 13), ("VaryStore", 283, "max-age", 14), ("VaryStore", 288, "no-cache", 15), ("VaryStore", 290, "max-stale", 16), ("VaryStore", 292, "min-fresh", 17), ("VaryStore$Thing", 64, "s-maxage", 18), ("VaryStore$Thing", 70, "max-age", 14), ("VaryStore$Thing", 72, "no-store", 13), ("VaryStore$Thing", 78, "private", 19), ("VaryStore$Thing", 80, "no-cache", 15), ("VaryStore$Thing", 82, "must-revalidate", 20), ("VaryStore$Thing", 84, "proxy-revalidate", 21)]
/-! ===== numbers: an int as the Int that it holds ===== -/
def iI (z : Int) : Int32 := Int32.ofInt z
theorem iI_add (a b : Int) : iI a + iI b = iI (a + b) := (Int32.ofInt_add a b).symm
theorem iI_sub (a b : Int) : iI a - iI b = iI (a - b) := (Int32.ofInt_sub a b).symm
theorem iI_mul (a b : Int) : iI a * iI b = iI (a * b) := (Int32.ofInt_mul a b).symm
theorem iI_neg (a : Int) : - iI a = iI (-a) := (Int32.ofInt_neg a).symm
theorem iI_of (x : Int32) : iI x.toInt = x := Int32.ofInt_toInt x
theorem iI_toInt {z : Int} (h1 : -2147483648 ≤ z) (h2 : z < 2147483648) : (iI z).toInt = z := Int32.toInt_ofInt_of_le (by omega) (by omega)
theorem iI_nI (n : Nat) : nI n = iI n := Int32.ofInt_eq_ofNat.symm
theorem iI_lt {a b : Int} (a1 : -2147483648 ≤ a) (a2 : a < 2147483648) (b1 : -2147483648 ≤ b) (b2 : b < 2147483648) : iI a < iI b ↔ a < b := by
  rw [Int32.lt_iff_toInt_lt, iI_toInt a1 a2, iI_toInt b1 b2]
theorem iI_le {a b : Int} (a1 : -2147483648 ≤ a) (a2 : a < 2147483648) (b1 : -2147483648 ≤ b) (b2 : b < 2147483648) : iI a ≤ iI b ↔ a ≤ b := by
  rw [Int32.le_iff_toInt_le, iI_toInt a1 a2, iI_toInt b1 b2]
theorem iI_eq {a b : Int} (a1 : -2147483648 ≤ a) (a2 : a < 2147483648) (b1 : -2147483648 ≤ b) (b2 : b < 2147483648) : iI a = iI b ↔ a = b := by
  rw [← Int32.toInt_inj, iI_toInt a1 a2, iI_toInt b1 b2]
theorem iI_clamp {z : Int} (h1 : 0 ≤ z) (h2 : z < 2147483648) : (iI z).toNatClampNeg = z.toNat := by
  show (iI z).toInt.toNat = _
  rw [iI_toInt (by omega) h2]
theorem iI_in {z : Int} {n : Nat} (h1 : 0 ≤ z) (h2 : z < n) (h3 : n < 2147483648) : vp_in (iI z) n := by
  rw [vp_in_iff, iI_toInt (by omega) (by omega)]
  exact ⟨h1, h2⟩
/-! ===== the heap as a map from addresses to pictures of cells ===== -/
abbrev HM : Type := Nat → Option va_E
def hu (M : HM) (a : Nat) (e : va_E) : HM := fun q => if q = a then some e else M q
theorem hu_same (M : HM) (a : Nat) (e : va_E) : hu M a e a = some e := by simp [hu]
theorem hu_ne {M : HM} {a b : Nat} {e : va_E} (h : b ≠ a) : hu M a e b = M b := by simp [hu, h]
def HH (D : va_G) (cl : List vw_C) (M : HM) (H : Heap) : Prop := ∀ (a : Nat) (e : va_E), M a = some e → va_at D cl (a, e) H
theorem HH.one {D : va_G} {cl : List vw_C} {M : HM} {H : Heap} (h : HH D cl M H) {a : Nat} {e : va_E} (ha : M a = some e) : va_P D cl [(a, e)] H := by
  intro k q hq
  match k, hq with
  | 0, hq => cases hq; exact h a e ha
  | k + 1, hq => simp at hq
theorem HH.put {D : va_G} {cl : List vw_C} {M : HM} {H H1 : Heap} {a : Nat} {e : va_E} (h : HH D cl M H) (h1 : va_at D cl (a, e) H1) (oq : ∀ q : Nat, q ≠ a → H1[q]? = H[q]?) : HH D cl (hu M a e) H1 := by
  intro b e' hb
  by_cases hba : b = a
  · subst hba
    rw [hu_same] at hb
    cases hb
    exact h1
  · rw [hu_ne hba] at hb
    exact (h b e' hb).kept (oq b hba)
theorem HH.new {D : va_G} {cl : List vw_C} {M : HM} {H H1 : Heap} {e : va_E} (h : HH D cl M H) (h1 : va_at D cl (H.size, e) H1) (oq : ∀ q : Nat, q < H.size → H1[q]? = H[q]?) : HH D cl (hu M H.size e) H1 := by
  intro b e' hb
  by_cases hba : b = H.size
  · subst hba
    rw [hu_same] at hb
    cases hb
    exact h1
  · rw [hu_ne hba] at hb
    have hl : b < H.size := (h b e' hb).lt
    exact (h b e' hb).kept (oq b hl)
/-! ===== locals, by their places ===== -/
def lvOf (vs : List (Option Value)) : List (Nat × Value) := vs.zipIdx.filterMap (fun q => q.1.map (fun v => (q.2, v)))
theorem lvOf_mem {vs : List (Option Value)} {i : Nat} {v : Value} : (i, v) ∈ lvOf vs ↔ vs[i]? = some (some v) := by
  unfold lvOf
  rw [List.mem_filterMap]
  constructor
  · rintro ⟨⟨o, j⟩, hm, hq⟩
    cases o with
    | none => simp at hq
    | some w =>
      simp only [Option.map_some, Option.some.injEq, Prod.mk.injEq] at hq
      obtain ⟨rfl, rfl⟩ := hq
      exact List.mem_zipIdx_iff_getElem?.mp hm
  · intro h
    exact ⟨(some v, i), List.mem_zipIdx_iff_getElem?.mpr h, rfl⟩
def LV (ls : Array Slot) (nL : Nat) (vs : List (Option Value)) : Prop := lv_has ls nL (lvOf vs)
theorem LV.at {ls : Array Slot} {nL : Nat} {vs : List (Option Value)} (h : LV ls nL vs) {i : Nat} {v : Value} (hi : vs[i]? = some (some v)) : ls[i]? = some (.val v) := h.2.2 (i, v) (lvOf_mem.mpr hi)
theorem LV.to {ls : Array Slot} {nL : Nat} {vs vs' : List (Option Value)} (h : LV ls nL vs) (hs : ∀ (i : Nat) (v : Value), vs'[i]? = some (some v) → vs[i]? = some (some v)) : LV ls nL vs' :=
  ⟨h.1, h.2.1, fun q hq => h.2.2 q (lvOf_mem.mpr (hs _ _ (lvOf_mem.mp hq)))⟩
/-- no long stands just ahead of the place -/
def lvFree (vs : List (Option Value)) (i : Nat) : Bool := match i with
  | 0 => true
  | j + 1 => match vs[j]? with
    | some (some (.long _)) => false
    | some (some (.double _)) => false
    | _ => true
theorem LV.st1 {ls : Array Slot} {nL : Nat} {vs : List (Option Value)} {i : Nat} {v : Value} (hf : lvFree vs i = true) (h : lv_has ls nL ((i, v) :: (lvOf vs).filter (fun q => !(q.1 == i) && !(q.1 + 1 == i && q.2.category == 2)))) : LV ls nL (vs.set i (some v)) := by
  refine ⟨h.1, h.2.1, fun q hq => h.2.2 q ?_⟩
  obtain ⟨j, w⟩ := q
  have hj := lvOf_mem.mp hq
  by_cases hji : j = i
  · subst hji
    rw [List.getElem?_set] at hj
    simp only [if_true] at hj
    split at hj
    · cases hj; exact List.mem_cons_self
    · cases hj
  · rw [List.getElem?_set_ne (fun e => hji e.symm)] at hj
    refine List.mem_cons_of_mem _ (List.mem_filter.mpr ⟨lvOf_mem.mpr hj, ?_⟩)
    have h1 : (j == i) = false := by simp [hji]
    simp only [h1, Bool.not_false, Bool.true_and]
    by_cases h2 : j + 1 = i
    · subst h2
      unfold lvFree at hf
      simp only [hj] at hf
      cases w <;> simp [Value.category] at hf ⊢
    · simp [h2]
