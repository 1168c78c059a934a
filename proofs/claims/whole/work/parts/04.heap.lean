/-! ===== the heap's instructions ===== -/
theorem hu_dom {M : HM} {a : Nat} {e : va_E} {A : Nat → Prop} (h : ∀ q, M q ≠ none → A q) (ha : A a) : ∀ q, hu M a e q ≠ none → A q := by
  intro q hq
  by_cases hqa : q = a
  · subst hqa; exact ha
  · rw [hu_ne hqa] at hq; exact h q hq
theorem tb_in {w : Cond} (i : Nat) (h : lw_tbl[i]? = some w) (hg : goodWord w = true) : w ∈ TB := List.mem_filter.mpr ⟨List.mem_of_getElem? h, hg⟩
/-- a field's place: pool index of the class that reads it, number of the object's class, number of the field -/
def FA (own : String) (index ci k : Nat) (C : String) (T : u_T) (N : Nat) (ty : Nat → FieldType) : Prop :=
  cls[ci]? = some (C, T, N) ∧ (∀ w ∈ u_ws C T N, w ∈ TB) ∧ k < N ∧ (∀ j, j < N → parseFieldDescriptor (T j).2.2.1 = some (ty j)) ∧ (∀ a, a < N → ∀ b, b < N → a ≠ b → (T a).2.1 ≠ (T b).2.1) ∧
  (Cond.fieldLink own index (T k).1 (T k).2.1 (T k).2.2.1 ∈ TB ∨ ∃ host, Cond.fieldLinkNest own index (T k).1 (T k).2.1 (T k).2.2.1 host ∈ NB)
section HR
variable {Γ : GE} {μ : MS} {A : Nat → Prop} {E : List Frame → Array Value → State → State → Prop} {ce sl : Nat} {M : HM} {n pc : Nat} {vs : List (Option Value)} {st : List Value}
theorem g_get {a index ci k N : Nat} {C : String} {T : u_T} {ty : Nat → FieldType} {fs : List Value} {v : Value} (hF : FA μ.1 index ci k C T N ty) (hd : decode μ.2.1 pc = .ok (.getfield index, 3)) (hM : M a = some (.inr (ci, fs))) (hv : fs[k]? = some v) (kk : G Γ μ A E ce sl M n (pc + 3) vs (v :: st)) : G Γ μ A E ce sl M n pc vs (.ref a :: st) := by
  intro p e s m args below meth c H locs ls CC h1 h2 h3 h4 h5
  obtain ⟨c1, c2, c3, c4, c5, c6, c7, c8, c9, c10, c11, c12, c13⟩ := id CC
  obtain ⟨hc, hin, hk, hty, hnm, hl⟩ := hF
  have K := kk p e s m args below meth c H locs ls CC h1 h2 h3 h4 h5
  rcases hl with h | ⟨host, h⟩
  · exact va_get c1 c2 c5 hin c4 c9 (h1.one hM) 0 rfl hc k hk (c5 _ h) (fun _ h9 => h9) hv hd K
  · exact va_getN c1 c2 c5 hin c4 c9 (h1.one hM) 0 rfl hc k hk (c11.nb h) (fun _ h9 => h9) hv hd K
theorem g_put {a index ci k N : Nat} {C : String} {T : u_T} {ty : Nat → FieldType} {fs : List Value} {v : Value} (hF : FA μ.1 index ci k C T N ty) (hd : decode μ.2.1 pc = .ok (.putfield index, 3)) (hM : M a = some (.inr (ci, fs))) (hlen : k < fs.length) (hfin : (T k).2.2.2 = false) (hn : narrow (ty k) v = v) (hfit : fits (ty k) v = true) (kk : G Γ μ A E ce sl (hu M a (.inr (ci, fs.set k v))) n (pc + 3) vs st) : G Γ μ A E ce sl M n pc vs (v :: .ref a :: st) := by
  intro p e s m args below meth c H locs ls CC h1 h2 h3 h4 h5
  obtain ⟨c1, c2, c3, c4, c5, c6, c7, c8, c9, c10, c11, c12, c13⟩ := id CC
  obtain ⟨hc, hin, hk, hty, hnm, hl⟩ := hF
  have hap := va_apart (own := μ.1) c5 hin ty hty hnm c9 hc
  obtain ⟨r, q0, cell, q1, q2, q3, q4⟩ := h1 a _ hM
  have hr : r = (C, T, N) := Option.some.inj (q0.symm.trans hc)
  subst hr
  obtain ⟨hS, hfc, kC, hkC, hkind⟩ := c9.1 ci _ hc
  obtain ⟨cf, kf, fi, f, hi, hsl⟩ := hS k hk
  have hlay := c5 _ (hin _ (u_in_lay hk))
  unfold u_lay at hlay
  rw [if_neg (by rw [hfin]; decide)] at hlay
  have hst := (u_facts hfc hkC (u_lays c5 hin hk) hi).1
  have h6 := u_store hfc hkC hkind hlay hi (hty k hk) hn hfit
  have hA : A a := h3 a (by rw [hM]; simp)
  have fin : ∀ H' : Heap, H'[a]? = some (cell.setSlot f.slot v) → H'.size = H.size → (∀ q, q ≠ a → H'[q]? = H[q]?) → W p Γ.1 e μ.2.2.2.2.2.1 s m args below meth c H' (locs ++ [⟨a, f.slot⟩]) ce sl (E below args s) (F0 m (pc + 3) ls st) := by
    intro H' e1 e2 e3
    rw [hsl] at e1 ⊢
    exact kk p e s m args below meth c H' _ ls CC (h1.put ⟨_, hc, t_OB.to (V := updV (vp_V fs) k v) ⟨_, e1, q2, q3, t_set q4 hap hk v⟩ (fun j _ => vp_updV_set hlen v j)⟩ e3) (e2.trans h2) (hu_dom h3 hA) (h4.put e2 e3 hA) h5
  rcases hl with h | ⟨host, h⟩
  · exact W.putK c1 c2 (f := f) ⟨c4, c5 _ h, ⟨_, _, _, hi⟩, hst⟩ (by rw [q2]; exact h6) q1 q3 (by rw [hsl]; exact k2_hasslot (q4 k hk)) rfl rfl hd fin
  · exact va_WputK c1 c2 (f := f) c4 (c11.nb h) hi hst (by rw [q2]; exact h6) q1 q3 (by rw [hsl]; exact k2_hasslot (q4 k hk)) rfl rfl hd fin
/-- a final field, in its class's constructor -/
theorem g_putF {a index ci k N : Nat} {C : String} {T : u_T} {ty : Nat → FieldType} {fs : List Value} {v : Value} (hF : FA μ.1 index ci k C T N ty) (hd : decode μ.2.1 pc = .ok (.putfield index, 3)) (hM : M a = some (.inr (ci, fs))) (hlen : k < fs.length) (hfin : (T k).2.2.2 = true) (hw : Cond.fieldLink μ.1 index (T k).1 (T k).2.1 (T k).2.2.1 ∈ TB) (hdecl : (T k).1 = μ.1) (hnm9 : μ.2.2.2.2.1 = "<init>") (hn : narrow (ty k) v = v) (hfit : fits (ty k) v = true) (kk : G Γ μ A E ce sl (hu M a (.inr (ci, fs.set k v))) n (pc + 3) vs st) : G Γ μ A E ce sl M n pc vs (v :: .ref a :: st) := by
  intro p e s m args below meth c H locs ls CC h1 h2 h3 h4 h5
  obtain ⟨c1, c2, c3, c4, c5, c6, c7, c8, c9, c10, c11, c12, c13⟩ := id CC
  obtain ⟨hc, hin, hk, hty, hnm, -⟩ := hF
  have hap := va_apart (own := μ.1) c5 hin ty hty hnm c9 hc
  obtain ⟨r, q0, cell, q1, q2, q3, q4⟩ := h1 a _ hM
  have hr : r = (C, T, N) := Option.some.inj (q0.symm.trans hc)
  subst hr
  obtain ⟨hS, hfc, kC, hkC, hkind⟩ := c9.1 ci _ hc
  obtain ⟨cf, kf, fi, f, hi, hsl⟩ := hS k hk
  have hlay := c5 _ (hin _ (u_in_lay hk))
  unfold u_lay at hlay
  rw [if_pos hfin] at hlay
  have hst := (u_facts hfc hkC (u_lays c5 hin hk) hi).1
  have hcf : m.cls = cf := by
    obtain ⟨_, _, c', _, _, _, -, -, hf', -, -, -, hown2, -⟩ := Cond.laysFinal_spec hlay
    have e1 : c' = cf := by have := hi.symm.trans hf'; simp at this; exact this.1.symm
    rw [hdecl] at hown2
    rw [← e1]; exact Option.some.inj (c4.symm.trans hown2)
  have h6 := u_fits hfc hkC hkind (Or.inr hlay) hi (hty k hk) hn hfit
  have hA : A a := h3 a (by rw [hM]; simp)
  refine W.putFinK c1 c2 c4 (c5 _ hw) hi hst hcf (c8.trans hnm9) (by rw [q2]; exact h6) q1 q3 (by rw [hsl]; exact k2_hasslot (q4 k hk)) rfl rfl hd fun H' e1 e2 e3 => ?_
  rw [hsl] at e1 ⊢
  exact kk p e s m args below meth c H' _ ls CC (h1.put ⟨_, hc, t_OB.to (V := updV (vp_V fs) k v) ⟨_, e1, q2, q3, t_set q4 hap hk v⟩ (fun j _ => vp_updV_set hlen v j)⟩ e3) (e2.trans h2) (hu_dom h3 hA) (h4.put e2 e3 hA) h5
/-- an object -/
theorem g_new {index ci N : Nat} {C : String} {T : u_T} (ty : Nat → FieldType) (fs : List Value) (hc : cls[ci]? = some (C, T, N)) (hin : ∀ w ∈ u_ws C T N, w ∈ TB) (hty : ∀ j, j < N → parseFieldDescriptor (T j).2.2.1 = some (ty j)) (hfs : ∀ j, j < N → defaultValue (ty j) = vp_V fs j) (hd : decode μ.2.1 pc = .ok (.new index, 3)) (hcl : Cond.classLink μ.1 index C ∈ TB) (hinst : Cond.instantiable C N ∈ TB) (hini : Cond.initialized C ∈ TB) (hce : ce + 1 ≤ μ.2.2.2.2.2.1.cells) (hsl : sl + N ≤ μ.2.2.2.2.2.1.slots) (kk : G Γ μ A E (ce + 1) (sl + N) (hu M n (.inr (ci, fs))) (n + 1) (pc + 3) vs (.ref n :: st)) : G Γ μ A E ce sl M n pc vs st := by
  intro p e s m args below meth c H locs ls CC h1 h2 h3 h4 h5
  obtain ⟨c1, c2, c3, c4, c5, c6, c7, c8, c9, c10, c11, c12, c13⟩ := id CC
  subst h2
  have hKn := c9.1 ci _ hc
  refine W.newcK c1 c2 c4 (c5 _ hcl) (c5 _ hinst) (c5 _ hini) rfl hd hce hsl hKn.2.1 rfl fun H1 kC hkC e1 z1 o1 => ?_
  exact kk p e s m args below meth c H1 _ ls CC (h1.new ⟨_, hc, (u_born ty c5 hin hKn hkC e1 hty).to hfs⟩ o1) z1 (hu_dom h3 (c10 _ h4.1)) ⟨Nat.le_trans h4.1 (by omega), fun x g1 g2 => (o1 x (Nat.lt_of_lt_of_le g1 h4.1)).trans (h4.2.1 x g1 g2), h4.2.2⟩ h5

theorem g_iald {a N : Nat} {f : Nat → Int32} {i z : Int} (hd : decode μ.2.1 pc = .ok (.iaload, 1)) (hM : M a = some (.inl (Γ.2.2.1 1, N, .inl f))) (i1 : 0 ≤ i) (i2 : i < N) (hN : N < 2147483648) (hz : f i.toNat = iI z) (kk : G Γ μ A E ce sl M n (pc + 1) vs (.int (iI z) :: st)) : G Γ μ A E ce sl M n pc vs (.int (iI i) :: .ref a :: st) := by
  intro p e s m args below meth c H locs ls CC h1 h2 h3 h4 h5
  obtain ⟨c1, c2, c3, c4, c5, c6, c7, c8, c9, c10, c11, c12, c13⟩ := id CC
  refine va_iald c1 c2 c9 (h1.one hM) 0 1 rfl rfl (iI_in i1 i2 hN) hd ?_
  rw [iI_clamp i1 (by omega), hz]
  exact kk p e s m args below meth c H locs ls CC h1 h2 h3 h4 h5
theorem g_cald {a N : Nat} {f : Nat → Int32} {i z : Int} (hd : decode μ.2.1 pc = .ok (.caload, 1)) (hM : M a = some (.inl (Γ.2.2.1 0, N, .inl f))) (i1 : 0 ≤ i) (i2 : i < N) (hN : N < 2147483648) (hz : f i.toNat = iI z) (kk : G Γ μ A E ce sl M n (pc + 1) vs (.int (iI z) :: st)) : G Γ μ A E ce sl M n pc vs (.int (iI i) :: .ref a :: st) := by
  intro p e s m args below meth c H locs ls CC h1 h2 h3 h4 h5
  obtain ⟨c1, c2, c3, c4, c5, c6, c7, c8, c9, c10, c11, c12, c13⟩ := id CC
  refine va_cald c1 c2 c9 (h1.one hM) 0 0 rfl rfl (iI_in i1 i2 hN) hd ?_
  rw [iI_clamp i1 (by omega), hz]
  exact kk p e s m args below meth c H locs ls CC h1 h2 h3 h4 h5
theorem g_lald {a N : Nat} {f : Nat → Int64} {i : Int} {z : Int64} (hd : decode μ.2.1 pc = .ok (.laload, 1)) (hM : M a = some (.inl (Γ.2.2.1 3, N, .inr (.inl f)))) (i1 : 0 ≤ i) (i2 : i < N) (hN : N < 2147483648) (hz : f i.toNat = z) (kk : G Γ μ A E ce sl M n (pc + 1) vs (.long z :: st)) : G Γ μ A E ce sl M n pc vs (.int (iI i) :: .ref a :: st) := by
  intro p e s m args below meth c H locs ls CC h1 h2 h3 h4 h5
  obtain ⟨c1, c2, c3, c4, c5, c6, c7, c8, c9, c10, c11, c12, c13⟩ := id CC
  refine va_lald c1 c2 c9 (h1.one hM) 0 3 rfl rfl (iI_in i1 i2 hN) hd ?_
  rw [iI_clamp i1 (by omega), hz]
  exact kk p e s m args below meth c H locs ls CC h1 h2 h3 h4 h5
theorem g_aald {a N : Nat} (t : Nat) {C : String} {f : Nat → Option Nat} {i : Int} {v : Value} (ht : (tyL Γ.2.2.1)[t]? = some (Γ.2.2.1 t, .object C)) (hd : decode μ.2.1 pc = .ok (.aaload, 1)) (hM : M a = some (.inl (Γ.2.2.1 t, N, .inr (.inr (.inr (.inr f)))))) (i1 : 0 ≤ i) (i2 : i < N) (hN : N < 2147483648) (hz : va_rf (f i.toNat) = v) (kk : G Γ μ A E ce sl M n (pc + 1) vs (v :: st)) : G Γ μ A E ce sl M n pc vs (.int (iI i) :: .ref a :: st) := by
  intro p e s m args below meth c H locs ls CC h1 h2 h3 h4 h5
  obtain ⟨c1, c2, c3, c4, c5, c6, c7, c8, c9, c10, c11, c12, c13⟩ := id CC
  refine va_aldq c1 c2 c9 (h1.one hM) 0 t rfl ht (iI_in i1 i2 hN) hd ?_
  rw [iI_clamp i1 (by omega), hz]
  exact kk p e s m args below meth c H locs ls CC h1 h2 h3 h4 h5
theorem g_alen {a : Nat} (t : Nat) {x : vp_A} {ty : FieldType} (ht : (tyL Γ.2.2.1)[t]? = some (Γ.2.2.1 t, ty)) (hd : decode μ.2.1 pc = .ok (.arraylength, 1)) (hM : M a = some (.inl (Γ.2.2.1 t, x))) (kk : G Γ μ A E ce sl M n (pc + 1) vs (.int (iI (x.1 : Nat)) :: st)) : G Γ μ A E ce sl M n pc vs (.ref a :: st) := by
  intro p e s m args below meth c H locs ls CC h1 h2 h3 h4 h5
  obtain ⟨c1, c2, c3, c4, c5, c6, c7, c8, c9, c10, c11, c12, c13⟩ := id CC
  exact va_alen c1 c2 c9 (h1.one hM) 0 t rfl ht (iI_nI x.1) hd (kk p e s m args below meth c H locs ls CC h1 h2 h3 h4 h5)
theorem g_iast {a N : Nat} {f : Nat → Int32} {i : Int} {z : Int} (hd : decode μ.2.1 pc = .ok (.iastore, 1)) (hM : M a = some (.inl (Γ.2.2.1 1, N, .inl f))) (i1 : 0 ≤ i) (i2 : i < N) (hN : N < 2147483648) (kk : G Γ μ A E ce sl (hu M a (.inl (Γ.2.2.1 1, N, .inl (upd f i.toNat (iI z))))) n (pc + 1) vs st) : G Γ μ A E ce sl M n pc vs (.int (iI z) :: .int (iI i) :: .ref a :: st) := by
  intro p e s m args below meth c H locs ls CC h1 h2 h3 h4 h5
  obtain ⟨c1, c2, c3, c4, c5, c6, c7, c8, c9, c10, c11, c12, c13⟩ := id CC
  have hin := iI_in i1 i2 hN
  have hA : A a := h3 a (by rw [hM]; simp)
  refine W.iast c1 c2 (h1 a _ hM) ((c9.2 1 _ rfl).1 N (fun j => .int (f j))) (fun q => by cases q) (by show ¬ (iI i < 0 ∨ (arrV _ _ _).slots.size ≤ _); rw [arrV_size]; exact hin) rfl rfl hd fun H1 e1 z1 oq => ?_
  refine kk p e s m args below meth c H1 _ ls CC (h1.put ?_ oq) (z1.trans h2) (hu_dom h3 hA) (h4.put z1 oq hA) h5
  show H1[a]? = some (vp_cell _ _)
  rw [e1, iI_clamp i1 (by omega)]
  rw [vp_cell_i, vp_cell_i, arrV_store]
  congr 2
  funext q
  by_cases hq : q = i.toNat
  · subst hq
    simp [updV, upd]
  · simp [updV, upd, hq]
theorem g_cast {a N : Nat} {f : Nat → Int32} {i : Int} {z : Int} (hd : decode μ.2.1 pc = .ok (.castore, 1)) (hM : M a = some (.inl (Γ.2.2.1 0, N, .inl f))) (i1 : 0 ≤ i) (i2 : i < N) (hN : N < 2147483648) (hz : narrow .char (.int (iI z)) = .int (iI z)) (kk : G Γ μ A E ce sl (hu M a (.inl (Γ.2.2.1 0, N, .inl (upd f i.toNat (iI z))))) n (pc + 1) vs st) : G Γ μ A E ce sl M n pc vs (.int (iI z) :: .int (iI i) :: .ref a :: st) := by
  intro p e s m args below meth c H locs ls CC h1 h2 h3 h4 h5
  obtain ⟨c1, c2, c3, c4, c5, c6, c7, c8, c9, c10, c11, c12, c13⟩ := id CC
  have hin := iI_in i1 i2 hN
  have hA : A a := h3 a (by rw [hM]; simp)
  refine W.cast c1 c2 (h1 a _ hM) ((c9.2 0 _ rfl).1 N (fun j => .int (f j))) (fun q => by cases q) (by show ¬ (iI i < 0 ∨ (arrV _ _ _).slots.size ≤ _); rw [arrV_size]; exact hin) rfl rfl hd fun H1 e1 z1 oq => ?_
  refine kk p e s m args below meth c H1 _ ls CC (h1.put ?_ oq) (z1.trans h2) (hu_dom h3 hA) (h4.put z1 oq hA) h5
  show H1[a]? = some (vp_cell _ _)
  rw [e1, iI_clamp i1 (by omega)]
  rw [vp_cell_i, vp_cell_i, arrV_store]
  congr 2
  funext q
  by_cases hq : q = i.toNat
  · subst hq
    simp [updV, upd, hz]
  · simp [updV, upd, hq]
theorem g_last {a N : Nat} {f : Nat → Int64} {i : Int} {z : Int64} (hd : decode μ.2.1 pc = .ok (.lastore, 1)) (hM : M a = some (.inl (Γ.2.2.1 3, N, .inr (.inl f)))) (i1 : 0 ≤ i) (i2 : i < N) (hN : N < 2147483648) (kk : G Γ μ A E ce sl (hu M a (.inl (Γ.2.2.1 3, N, .inr (.inl (vp_updL f i.toNat z))))) n (pc + 1) vs st) : G Γ μ A E ce sl M n pc vs (.long z :: .int (iI i) :: .ref a :: st) := by
  intro p e s m args below meth c H locs ls CC h1 h2 h3 h4 h5
  obtain ⟨c1, c2, c3, c4, c5, c6, c7, c8, c9, c10, c11, c12, c13⟩ := id CC
  have hin := iI_in i1 i2 hN
  have hA : A a := h3 a (by rw [hM]; simp)
  refine W.last c1 c2 (h1 a _ hM) ((c9.2 3 _ rfl).1 N (fun j => .long (f j))) (fun q => by cases q) (by show ¬ (iI i < 0 ∨ (arrV _ _ _).slots.size ≤ _); rw [arrV_size]; exact hin) rfl rfl hd fun H1 e1 z1 oq => ?_
  refine kk p e s m args below meth c H1 _ ls CC (h1.put ?_ oq) (z1.trans h2) (hu_dom h3 hA) (h4.put z1 oq hA) h5
  show H1[a]? = some (vp_cell _ _)
  rw [e1, iI_clamp i1 (by omega)]
  rw [vp_cell_l, vp_cell_l, arrV_store]
  congr 2
  funext q
  by_cases hq : q = i.toNat
  · subst hq
    simp [updV, vp_updL]
  · simp [updV, vp_updL, hq]
theorem g_aast {a N v ci : Nat} (t : Nat) {r : vw_C} {ws9 : List Value} {f : Nat → Option Nat} {i : Int} (ht : (tyL Γ.2.2.1)[t]? = some (Γ.2.2.1 t, .object r.1)) (hc : cls[ci]? = some r) (hd : decode μ.2.1 pc = .ok (.aastore, 1)) (hM : M a = some (.inl (Γ.2.2.1 t, N, .inr (.inr (.inr (.inr f)))))) (hv : M v = some (.inr (ci, ws9))) (i1 : 0 ≤ i) (i2 : i < N) (hN : N < 2147483648) (kk : G Γ μ A E ce sl (hu M a (.inl (Γ.2.2.1 t, N, .inr (.inr (.inr (.inr (va_up f i.toNat (some v)))))))) n (pc + 1) vs st) : G Γ μ A E ce sl M n pc vs (.ref v :: .int (iI i) :: .ref a :: st) := by
  intro p e s m args below meth c H locs ls CC h1 h2 h3 h4 h5
  obtain ⟨c1, c2, c3, c4, c5, c6, c7, c8, c9, c10, c11, c12, c13⟩ := id CC
  have hin := iI_in i1 i2 hN
  have hA : A a := h3 a (by rw [hM]; simp)
  obtain ⟨r', hr', cellV, g1, g2, g3, -⟩ := h1 v _ hv
  have hcls := (c9.1 ci r hc).2
  obtain ⟨kA, comp, k1, k2, k3, -⟩ := (c9.2 t _ ht).2
  have hcomp : comp = Γ.2.1.1 ci := Option.some.inj (k3.symm.trans hcls.1)
  subst hcomp
  obtain ⟨kC, hkC, -⟩ := hcls.2
  have hlt : (iI i).toNatClampNeg < N := Nat.not_le.mp fun q => hin (Or.inr q)
  have h0 : ¬ iI i < 0 := fun q => hin (Or.inl q)
  refine W.aast c1 c2 (h1 a _ hM) (fun q h => by cases h) (fun h => by cases h) k1 k2 rfl hkC ⟨h0, by show _ < (arrV _ _ _).slots.size; rw [arrV_size]; exact hlt⟩ g1 (fun q h => by rw [g3] at h; cases h) (by rw [g2]; exact hkC) (by rw [g2]; exact va_assign hcls) rfl rfl hd fun H1 e1 z1 oq => ?_
  refine kk p e s m args below meth c H1 _ ls CC (h1.put ?_ oq) (z1.trans h2) (hu_dom h3 hA) (h4.put z1 oq hA) h5
  show H1[a]? = some (vp_cell _ _)
  rw [e1, iI_clamp i1 (by omega)]
  rw [vp_cell_q, vp_cell_q, arrV_store]
  congr 2
  funext q
  by_cases hq : q = i.toNat
  · subst hq
    simp [updV, va_up, va_rf]
  · simp [updV, va_up, hq]
theorem g_newai {k : Nat} (hd : decode μ.2.1 pc = .ok (.newarray .int, 2)) (harr : Cond.arrayClass .int ∈ TB) (hk : k ≤ 60000000) (hce : ce + 1 ≤ μ.2.2.2.2.2.1.cells) (hsl : sl + k ≤ μ.2.2.2.2.2.1.slots) (kk : G Γ μ A E (ce + 1) (sl + k) (hu M n (.inl (Γ.2.2.1 1, k, .inl (fun _ => iI 0)))) (n + 1) (pc + 2) vs (.ref n :: st)) : G Γ μ A E ce sl M n pc vs (.int (iI (k : Nat)) :: st) := by
  intro p e s m args below meth c H locs ls CC h1 h2 h3 h4 h5
  obtain ⟨c1, c2, c3, c4, c5, c6, c7, c8, c9, c10, c11, c12, c13⟩ := id CC
  subst h2
  have hn0 : ¬ iI (k : Nat) < 0 := by
    rw [show (0 : Int32) = iI 0 from rfl, iI_lt (by omega) (by omega) (by omega) (by omega)]; omega
  refine va_newaK (atype := .int) c1 c2 (c5 _ harr) rfl hd rfl hn0 (by rw [iI_clamp (by omega) (by omega)]; rfl) (by show k * _ ≤ _; simp [componentBytes, newarray.typeOf]; omega) hce hsl rfl fun H1 cA e1 z1 o1 hAr hNm => ?_
  have hcA : cA = Γ.2.2.1 1 := by
    have h9 : s.vm.findClass ("[" ++ (FieldType.int).toString) = some (Γ.2.2.1 1) := (c9.2 1 _ rfl).2
    exact Option.some.inj (hNm.symm.trans h9)
  subst hcA
  exact kk p e s m args below meth c H1 _ ls CC (h1.new (by show H1[H.size]? = some (vp_cell _ _); rw [vp_cell_i]; exact e1) o1) z1 (hu_dom h3 (c10 _ h4.1)) ⟨Nat.le_trans h4.1 (by omega), fun x g1 g2 => (o1 x (Nat.lt_of_lt_of_le g1 h4.1)).trans (h4.2.1 x g1 g2), h4.2.2⟩ h5
theorem g_newac {k : Nat} (hd : decode μ.2.1 pc = .ok (.newarray .char, 2)) (harr : Cond.arrayClass .char ∈ TB) (hk : k ≤ 60000000) (hce : ce + 1 ≤ μ.2.2.2.2.2.1.cells) (hsl : sl + k ≤ μ.2.2.2.2.2.1.slots) (kk : G Γ μ A E (ce + 1) (sl + k) (hu M n (.inl (Γ.2.2.1 0, k, .inl (fun _ => iI 0)))) (n + 1) (pc + 2) vs (.ref n :: st)) : G Γ μ A E ce sl M n pc vs (.int (iI (k : Nat)) :: st) := by
  intro p e s m args below meth c H locs ls CC h1 h2 h3 h4 h5
  obtain ⟨c1, c2, c3, c4, c5, c6, c7, c8, c9, c10, c11, c12, c13⟩ := id CC
  subst h2
  have hn0 : ¬ iI (k : Nat) < 0 := by
    rw [show (0 : Int32) = iI 0 from rfl, iI_lt (by omega) (by omega) (by omega) (by omega)]; omega
  refine va_newaK (atype := .char) c1 c2 (c5 _ harr) rfl hd rfl hn0 (by rw [iI_clamp (by omega) (by omega)]; rfl) (by show k * _ ≤ _; simp [componentBytes, newarray.typeOf]; omega) hce hsl rfl fun H1 cA e1 z1 o1 hAr hNm => ?_
  have hcA : cA = Γ.2.2.1 0 := by
    have h9 : s.vm.findClass ("[" ++ (FieldType.char).toString) = some (Γ.2.2.1 0) := (c9.2 0 _ rfl).2
    exact Option.some.inj (hNm.symm.trans h9)
  subst hcA
  exact kk p e s m args below meth c H1 _ ls CC (h1.new (by show H1[H.size]? = some (vp_cell _ _); rw [vp_cell_i]; exact e1) o1) z1 (hu_dom h3 (c10 _ h4.1)) ⟨Nat.le_trans h4.1 (by omega), fun x g1 g2 => (o1 x (Nat.lt_of_lt_of_le g1 h4.1)).trans (h4.2.1 x g1 g2), h4.2.2⟩ h5
theorem g_newal {k : Nat} (hd : decode μ.2.1 pc = .ok (.newarray .long, 2)) (harr : Cond.arrayClass .long ∈ TB) (hk : k ≤ 60000000) (hce : ce + 1 ≤ μ.2.2.2.2.2.1.cells) (hsl : sl + k ≤ μ.2.2.2.2.2.1.slots) (kk : G Γ μ A E (ce + 1) (sl + k) (hu M n (.inl (Γ.2.2.1 3, k, .inr (.inl (fun _ => 0))))) (n + 1) (pc + 2) vs (.ref n :: st)) : G Γ μ A E ce sl M n pc vs (.int (iI (k : Nat)) :: st) := by
  intro p e s m args below meth c H locs ls CC h1 h2 h3 h4 h5
  obtain ⟨c1, c2, c3, c4, c5, c6, c7, c8, c9, c10, c11, c12, c13⟩ := id CC
  subst h2
  have hn0 : ¬ iI (k : Nat) < 0 := by
    rw [show (0 : Int32) = iI 0 from rfl, iI_lt (by omega) (by omega) (by omega) (by omega)]; omega
  refine va_newaK (atype := .long) c1 c2 (c5 _ harr) rfl hd rfl hn0 (by rw [iI_clamp (by omega) (by omega)]; rfl) (by show k * _ ≤ _; simp [componentBytes, newarray.typeOf]; omega) hce hsl rfl fun H1 cA e1 z1 o1 hAr hNm => ?_
  have hcA : cA = Γ.2.2.1 3 := by
    have h9 : s.vm.findClass ("[" ++ (FieldType.long).toString) = some (Γ.2.2.1 3) := (c9.2 3 _ rfl).2
    exact Option.some.inj (hNm.symm.trans h9)
  subst hcA
  exact kk p e s m args below meth c H1 _ ls CC (h1.new (by show H1[H.size]? = some (vp_cell _ _); rw [vp_cell_l]; exact e1) o1) z1 (hu_dom h3 (c10 _ h4.1)) ⟨Nat.le_trans h4.1 (by omega), fun x g1 g2 => (o1 x (Nat.lt_of_lt_of_le g1 h4.1)).trans (h4.2.1 x g1 g2), h4.2.2⟩ h5
theorem g_anew {k index : Nat} (t : Nat) {C : String} (ht : (tyL Γ.2.2.1)[t]? = some (Γ.2.2.1 t, .object C)) (hd : decode μ.2.1 pc = .ok (.anewarray index, 3)) (hcl : Cond.classLink μ.1 index C ∈ TB) (hov : Cond.arrayOver (.object C) ∈ NB) (hk : k ≤ 60000000) (hce : ce + 1 ≤ μ.2.2.2.2.2.1.cells) (hsl : sl + k ≤ μ.2.2.2.2.2.1.slots) (kk : G Γ μ A E (ce + 1) (sl + k) (hu M n (.inl (Γ.2.2.1 t, k, .inr (.inr (.inr (.inr (fun _ => none))))))) (n + 1) (pc + 3) vs (.ref n :: st)) : G Γ μ A E ce sl M n pc vs (.int (iI (k : Nat)) :: st) := by
  intro p e s m args below meth c H locs ls CC h1 h2 h3 h4 h5
  obtain ⟨c1, c2, c3, c4, c5, c6, c7, c8, c9, c10, c11, c12, c13⟩ := id CC
  subst h2
  have hn0 : ¬ iI (k : Nat) < 0 := by
    rw [show (0 : Int32) = iI 0 from rfl, iI_lt (by omega) (by omega) (by omega) (by omega)]; omega
  have hcl9 : (iI (k : Nat)).toNatClampNeg = k := by rw [iI_clamp (by omega) (by omega)]; rfl
  refine W.anew c1 c2 c4 (c5 _ hcl) (c11.nb hov) rfl hd rfl hn0 (by rw [hcl9]; omega) hce (by rw [hcl9]; exact hsl) fun cA kA comp f1 f2 f3 f4 => ?_
  rw [hcl9]
  have hcA : cA = Γ.2.2.1 t := by
    obtain ⟨kA', comp', q1, q2, q3, q4⟩ := (c9.2 t _ ht).2
    exact Option.some.inj (f1.symm.trans q4)
  subst hcA
  generalize hH1 : H.push ({ cls := Γ.2.2.1 t, slots := Array.replicate k .null, vm := .none } : Cell) = H1
  have z1 : H1.size = H.size + 1 := by rw [← hH1, Array.size_push]
  have e1 : H1[H.size]? = some (arrV (Γ.2.2.1 t) k (fun _ => .null)) := by rw [← hH1, Array.getElem?_push_size, ← arrV_new]
  have o1 : ∀ q : Nat, q < H.size → H1[q]? = H[q]? := fun q hq => by rw [← hH1, Array.getElem?_push, if_neg (Nat.ne_of_lt hq)]
  exact kk p e s m args below meth c H1 _ ls CC (h1.new (by show H1[H.size]? = some (vp_cell _ _); rw [vp_cell_q]; exact e1) o1) z1 (hu_dom h3 (c10 _ h4.1)) ⟨Nat.le_trans h4.1 (by omega), fun x g1 g2 => (o1 x (Nat.lt_of_lt_of_le g1 h4.1)).trans (h4.2.1 x g1 g2), h4.2.2⟩ h5
theorem g_anewA {k index : Nat} (hd : decode μ.2.1 pc = .ok (.anewarray index, 3)) (hcl : Cond.classLink μ.1 index (FieldType.array .int).toString ∈ TB) (hov : Cond.arrayOver (.array .int) ∈ NB) (hk : k ≤ 60000000) (hce : ce + 1 ≤ μ.2.2.2.2.2.1.cells) (hsl : sl + k ≤ μ.2.2.2.2.2.1.slots) (kk : G Γ μ A E (ce + 1) (sl + k) (hu M n (.inl (Γ.2.2.1 5, k, .inr (.inr (.inr (.inr (fun _ => none))))))) (n + 1) (pc + 3) vs (.ref n :: st)) : G Γ μ A E ce sl M n pc vs (.int (iI (k : Nat)) :: st) := by
  intro p e s m args below meth c H locs ls CC h1 h2 h3 h4 h5
  obtain ⟨c1, c2, c3, c4, c5, c6, c7, c8, c9, c10, c11, c12, c13⟩ := id CC
  subst h2
  have hn0 : ¬ iI (k : Nat) < 0 := by
    rw [show (0 : Int32) = iI 0 from rfl, iI_lt (by omega) (by omega) (by omega) (by omega)]; omega
  have hcl9 : (iI (k : Nat)).toNatClampNeg = k := by rw [iI_clamp (by omega) (by omega)]; rfl
  refine W.anewA (t := .int) c1 c2 c4 (c5 _ hcl) (c11.nb hov) rfl hd rfl hn0 (by rw [hcl9]; omega) hce (by rw [hcl9]; exact hsl) fun cA kA comp f1 f2 f3 f4 => ?_
  rw [hcl9]
  have hcA : cA = Γ.2.2.1 5 := by
    have h9 : s.vm.findClass ("[" ++ (FieldType.array .int).toString) = some (Γ.2.2.1 5) := (c9.2 5 _ rfl).2
    exact Option.some.inj (f1.symm.trans h9)
  subst hcA
  generalize hH1 : H.push ({ cls := Γ.2.2.1 5, slots := Array.replicate k .null, vm := .none } : Cell) = H1
  have z1 : H1.size = H.size + 1 := by rw [← hH1, Array.size_push]
  have e1 : H1[H.size]? = some (arrV (Γ.2.2.1 5) k (fun _ => .null)) := by rw [← hH1, Array.getElem?_push_size, ← arrV_new]
  have o1 : ∀ q : Nat, q < H.size → H1[q]? = H[q]? := fun q hq => by rw [← hH1, Array.getElem?_push, if_neg (Nat.ne_of_lt hq)]
  exact kk p e s m args below meth c H1 _ ls CC (h1.new (by show H1[H.size]? = some (vp_cell _ _); rw [vp_cell_q]; exact e1) o1) z1 (hu_dom h3 (c10 _ h4.1)) ⟨Nat.le_trans h4.1 (by omega), fun x g1 g2 => (o1 x (Nat.lt_of_lt_of_le g1 h4.1)).trans (h4.2.1 x g1 g2), h4.2.2⟩ h5
theorem g_alenN {a N : Nat} (t : Nat) {x : (Nat → Int32) ⊕ (Nat → Int64) ⊕ (Nat → UInt32) ⊕ (Nat → UInt64) ⊕ (Nat → Option Nat)} {ty : FieldType} (ht : (tyL Γ.2.2.1)[t]? = some (Γ.2.2.1 t, ty)) (hd : decode μ.2.1 pc = .ok (.arraylength, 1)) (hM : M a = some (.inl (Γ.2.2.1 t, N, x))) (kk : G Γ μ A E ce sl M n (pc + 1) vs (.int (iI (N : Nat)) :: st)) : G Γ μ A E ce sl M n pc vs (.ref a :: st) := g_alen t ht hd hM kk
theorem g_objInit {a idx : Nat} (hd : decode μ.2.1 pc = .ok (.invokespecial idx, 3)) (hl : Cond.methodLink μ.1 idx objectInit ∈ TB) (hi : Cond.instanceMethod objectInit ∈ TB) (hcd : Cond.code objectInit ⟨#[0xb1]⟩ 1 none ∈ TB) (hf : 1 ≤ μ.2.2.2.2.2.1.frames) (hlo : (st.map fun v => v.category).sum + 12 ≤ μ.2.2.2.2.2.1.locals) (kk : G Γ μ A E ce sl M n (pc + 3) vs st) : G Γ μ A E ce sl M n pc vs (.ref a :: st) := by
  intro p e s m args below meth c H locs ls CC h1 h2 h3 h4 h5
  obtain ⟨c1, c2, c3, c4, c5, c6, c7, c8, c9, c10, c11, c12, c13⟩ := id CC
  exact W.objInit c1 c2 c4 (c5 _ hl) (c5 _ hi) (c5 _ hcd) rfl (by rw [c3]; exact h5.1) rfl hd hf (by show 2 * 0 + _ + 12 ≤ _; omega) (kk p e s m args below meth c H locs ls CC h1 h2 h3 h4 h5)
theorem g_max {x y : Int} {index : Nat} (hd : decode μ.2.1 pc = .ok (.invokestatic index, 3)) (hl : Cond.methodLink μ.1 index Lib.Math.max.name ∈ TB) (hs : Cond.static Lib.Math.max.name ∈ TB) (hi : Cond.initialized "java/lang/Math" ∈ TB) (hcd : Cond.code Lib.Math.max.name Lib.Math.max.code 2 (some .int) ∈ TB) (hf : 1 ≤ μ.2.2.2.2.2.1.frames) (hlo : (st.map fun v => v.category).sum + 13 ≤ μ.2.2.2.2.2.1.locals) (hc : ce ≤ μ.2.2.2.2.2.1.cells) (hsl : sl ≤ μ.2.2.2.2.2.1.slots) (x1 : -2147483648 ≤ x) (x2 : x < 2147483648) (y1 : -2147483648 ≤ y) (y2 : y < 2147483648) (kk : G Γ μ A E ce sl M n (pc + 3) vs (.int (iI (max x y)) :: st)) : G Γ μ A E ce sl M n pc vs (.int (iI y) :: .int (iI x) :: st) := by
  intro p e s m args below meth c H locs ls CC h1 h2 h3 h4 h5
  obtain ⟨c1, c2, c3, c4, c5, c6, c7, c8, c9, c10, c11, c12, c13⟩ := id CC
  refine va_mmax c1 c2 (by rw [c3]; exact h5.1.symm) c4 (c5 _ hl) (c5 _ hs) (c5 _ hi) (c5 _ hcd) hf hlo hc hsl hd ?_
  have e9 : (if iI x < iI y then iI y else iI x) = iI (max x y) := by
    by_cases h : x < y
    · rw [if_pos ((iI_lt x1 x2 y1 y2).mpr h)]; congr 1; omega
    · rw [if_neg (fun z => h ((iI_lt x1 x2 y1 y2).mp z))]; congr 1; omega
  rw [e9]
  exact kk p e s m args below meth c H locs ls CC h1 h2 h3 h4 h5
theorem g_min {x y z : Int} {index : Nat} (hd : decode μ.2.1 pc = .ok (.invokestatic index, 3)) (hl : Cond.methodLink μ.1 index Lib.Math.min.name ∈ TB) (hs : Cond.static Lib.Math.min.name ∈ TB) (hi : Cond.initialized "java/lang/Math" ∈ TB) (hcd : Cond.code Lib.Math.min.name Lib.Math.min.code 2 (some .int) ∈ TB) (hf : 1 ≤ μ.2.2.2.2.2.1.frames) (hlo : (st.map fun v => v.category).sum + 13 ≤ μ.2.2.2.2.2.1.locals) (hc : ce ≤ μ.2.2.2.2.2.1.cells) (hsl : sl ≤ μ.2.2.2.2.2.1.slots) (x1 : -2147483648 ≤ x) (x2 : x < 2147483648) (y1 : -2147483648 ≤ y) (y2 : y < 2147483648) (hz : min x y = z) (kk : G Γ μ A E ce sl M n (pc + 3) vs (.int (iI z) :: st)) : G Γ μ A E ce sl M n pc vs (.int (iI y) :: .int (iI x) :: st) := by
  intro p e s m args below meth c H locs ls CC h1 h2 h3 h4 h5
  obtain ⟨c1, c2, c3, c4, c5, c6, c7, c8, c9, c10, c11, c12, c13⟩ := id CC
  refine va_mmin c1 c2 (by rw [c3]; exact h5.1.symm) c4 (c5 _ hl) (c5 _ hs) (c5 _ hi) (c5 _ hcd) hf hlo hc hsl hd ?_
  have e9 : (if iI y < iI x then iI y else iI x) = iI (min x y) := by
    by_cases h : y < x
    · rw [if_pos ((iI_lt y1 y2 x1 x2).mpr h)]; congr 1; omega
    · rw [if_neg (fun z => h ((iI_lt y1 y2 x1 x2).mp z))]; congr 1; omega
  rw [e9, hz]
  exact kk p e s m args below meth c H locs ls CC h1 h2 h3 h4 h5
end HR
