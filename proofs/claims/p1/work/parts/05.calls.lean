/-! ===== entry, ends, calls ===== -/
def lvE : List Value → List (Option Value)
  | [] => []
  | v :: vs => if v.category = 2 then some v :: none :: lvE vs else some v :: lvE vs
theorem lvE_mem (k : Nat) (w : Value) : ∀ (av : List Value) (base i : Nat), (lvE av ++ List.replicate k none)[i]? = some (some w) → (base + i, w) ∈ lv_args base av := by
  intro av
  induction av with
  | nil =>
    intro base i h
    exfalso
    simp only [lvE, List.nil_append, List.getElem?_replicate] at h
    split at h <;> simp at h
  | cons v vs ih =>
    intro base i h
    unfold lvE at h
    unfold lv_args
    by_cases hc : v.category = 2
    · rw [if_pos hc] at h ⊢
      match i, h with
      | 0, h => simp at h; subst h; exact List.mem_cons_self
      | 1, h => simp at h
      | i + 2, h =>
        have h9 := ih (base + 2) i (by simpa using h)
        exact List.mem_cons_of_mem _ (by rw [show base + (i + 2) = base + 2 + i by omega]; exact h9)
    · rw [if_neg hc] at h ⊢
      match i, h with
      | 0, h => simp at h; subst h; exact List.mem_cons_self
      | i + 1, h =>
        have h9 := ih (base + 1) i (by simpa using h)
        exact List.mem_cons_of_mem _ (by rw [show base + (i + 1) = base + 1 + i by omega]; exact h9)
theorem LV.entry {ls : Array Slot} {nL k : Nat} {av : List Value} (h : lv_has ls nL (lv_args 0 av)) : LV ls nL (lvE av ++ List.replicate k none) :=
  ⟨h.1, h.2.1, fun q hq => h.2.2 q (by have h9 := lvE_mem k q.2 av 0 q.1 (lvOf_mem.mp hq); rwa [Nat.zero_add] at h9)⟩
theorem CT.of {Γ : GE} {μ : MS} {y : MethodName} {av : List Value} {M : HM} {n : Nat} {Q : Option Value → HM → Nat → Prop} {vs : List (Option Value)} (hy : plainName y.cls = true) (hown : y.cls = μ.1) (hnm : y.name = μ.2.2.2.2.1) (k : Nat) (hvs : lvE av ++ List.replicate k none = vs) (hlen : (lg_sl av).length ≤ μ.2.2.1) (hhh : μ.2.2.2.2.2.2 = [])
    (h : G Γ μ (AA M n) (EM Γ μ (AA M n) Q) 0 0 M n 0 vs []) : CT Γ μ y av M n Q := by
  refine Met.ofW (cc := μ.2.1) (maxL := μ.2.2.1) (ret := μ.2.2.2.1) hy rfl ?_
  intro p e s m args below meth c s₁ B hml hv
  obtain ⟨rfl, h1, h2, h3, h4, h5⟩ := hv
  have hts := atoms_spec (ws := Cond.code y μ.2.1 μ.2.2.1 μ.2.2.2.1 :: TB) B.pre
  have hown' : s.vm.findClass y.cls = some m.cls := findClass_of_methodNamed B.named
  have hin : meth.name = y.name := (name_of_methodNamed B.named B.method).1
  have htab : c.exceptionTable.toList = tableOf μ.2.2.2.2.2.2 := by
    obtain ⟨meth9, c9, q1, q2, -, -, -, -, q7, -⟩ := Cond.code_spec B.named (hts _ List.mem_cons_self)
    cases Option.some.inj (q1.symm.trans B.method)
    cases Option.some.inj (q2.symm.trans (Stand.of_body B).code)
    rw [hhh, Array.isEmpty_iff.mp q7]
    rfl
  have hl := lv_entry av (n := μ.2.2.1) hlen
  rw [lg_entry_eq]
  rw [← hvs] at h
  exact h p e s m _ below meth c s.heap [] _ ⟨B.exec, B.bytes, hml, by rw [← hown]; exact hown', fun w hw => hts w (List.mem_cons_of_mem _ hw), B.returns, B.notSynchronized, hin.trans hnm, h3, fun q hq => Or.inr (by omega), h4, h5, htab⟩ h1 h2 (fun q hq => Or.inl hq) va_S.rf (LV.entry hl)
theorem CX.of {Γ : GE} {μ : MS} {y : MethodName} {av : List Value} {M : HM} {n : Nat} {Q : Option Value → HM → Nat → Prop} {X : String → HM → Nat → Prop} {vs : List (Option Value)} (hy : plainName y.cls = true) (hown : y.cls = μ.1) (hnm : y.name = μ.2.2.2.2.1) (k : Nat) (hvs : lvE av ++ List.replicate k none = vs) (hlen : (lg_sl av).length ≤ μ.2.2.1) (hhh : μ.2.2.2.2.2.2 = [])
    (h : G Γ μ (AA M n) (EX Γ μ (AA M n) Q X) 0 0 M n 0 vs []) : CX Γ μ y av M n Q X := by
  refine vx_ofW (cc := μ.2.1) (maxL := μ.2.2.1) (ret := μ.2.2.2.1) hy rfl ?_
  intro p e s m args below meth c s₁ B hml htab0 hv
  obtain ⟨rfl, h1, h2, h3, h4, h5⟩ := hv
  have hts := atoms_spec (ws := Cond.code y μ.2.1 μ.2.2.1 μ.2.2.2.1 :: TB) B.pre
  have hown' : s.vm.findClass y.cls = some m.cls := findClass_of_methodNamed B.named
  have hin : meth.name = y.name := (name_of_methodNamed B.named B.method).1
  have htab : c.exceptionTable.toList = tableOf μ.2.2.2.2.2.2 := by
    rw [hhh]
    cases he : c.exceptionTable.toList with
    | nil => rfl
    | cons a b => exact (htab0 a (by rw [he]; exact List.mem_cons_self)).elim
  have hl := lv_entry av (n := μ.2.2.1) hlen
  rw [lg_entry_eq]
  rw [← hvs] at h
  exact h p e s m _ below meth c s.heap [] _ ⟨B.exec, B.bytes, hml, by rw [← hown]; exact hown', fun w hw => hts w (List.mem_cons_of_mem _ hw), B.returns, B.notSynchronized, hin.trans hnm, h3, fun q hq => Or.inr (by omega), h4, h5, htab⟩ h1 h2 (fun q hq => Or.inl hq) va_S.rf (LV.entry hl)
theorem good_TB {ws : List Cond} (h : ∀ w ∈ ws, w ∈ TB) : GoodIn TB ws := fun w hw => ⟨h w hw, good_of_word (List.mem_filter.mp (h w hw)).2⟩
theorem pc_blind {Γ : GE} {av : List Value} {M : HM} {n : Nat} : FrameBlind (PC Γ av M n) := fun a U g mk h => ⟨h.1, h.2.1, h.2.2.1, va_K.moved (u := U) (U := U.calling g mk a) (Vm.Alike.refl U.vm) h.2.2.2.1, (show ZL Γ (AA M n) (U.calling g mk a) U.heap from ZL.same (u := U) (U := U.calling g mk a) rfl h.2.2.2.2.1), h.2.2.2.2.2⟩
/-- the words of a call -/
def CW (own : String) (index : Nat) (y : MethodName) (ν : MS) (na : Nat) : Prop := Cond.methodLink own index y ∈ TB ∧ Cond.initialized y.cls ∈ TB ∧ Cond.code y ν.2.1 ν.2.2.1 ν.2.2.2.1 ∈ TB ∧ (y.cls ≠ "java/lang/invoke/MethodHandle" ∧ y.cls ≠ "java/lang/invoke/VarHandle" ∧ (parseMethodDescriptor y.desc).map (fun d => d.parameters.length) = some na)
def CWN (own : String) (index : Nat) (y : MethodName) (ν : MS) (na : Nat) : Prop := (∃ host, Cond.methodLinkNest own index y host ∈ NB) ∧ Cond.initialized y.cls ∈ TB ∧ Cond.code y ν.2.1 ν.2.2.1 ν.2.2.2.1 ∈ TB ∧ (y.cls ≠ "java/lang/invoke/MethodHandle" ∧ y.cls ≠ "java/lang/invoke/VarHandle" ∧ (parseMethodDescriptor y.desc).map (fun d => d.parameters.length) = some na)
def RM (μ ν : MS) (ce sl : Nat) : Prop := (ν.2.2.2.2.2.1.frames + 1 ≤ μ.2.2.2.2.2.1.frames ∧ 8 + (ν.2.2.1 + 11) + ν.2.2.2.2.2.1.locals ≤ μ.2.2.2.2.2.1.locals) ∧ (ce + ν.2.2.2.2.2.1.cells ≤ μ.2.2.2.2.2.1.cells ∧ sl + ν.2.2.2.2.2.1.slots ≤ μ.2.2.2.2.2.1.slots)
theorem cw_in {y : MethodName} {ν : MS} (hcd : Cond.code y ν.2.1 ν.2.2.1 ν.2.2.2.1 ∈ TB) : ∀ w ∈ Cond.code y ν.2.1 ν.2.2.1 ν.2.2.2.1 :: TB, w ∈ TB := fun w hw => (List.mem_cons.mp hw).elim (fun e => by rw [e]; exact hcd) id
section CR
variable {Γ : GE} {μ ν : MS} {A : Nat → Prop} {E : List Frame → Array Value → State → State → Prop} {ce sl : Nat} {M : HM} {n pc : Nat} {vs : List (Option Value)} {st : List Value} {Q : Option Value → HM → Nat → Prop} {X : String → HM → Nat → Prop} {Q' : Option Value → HM → Nat → Prop} {X' : String → HM → Nat → Prop} {y : MethodName}

theorem g_iret {z : Int} (hd : decode μ.2.1 pc = .ok (.ireturn, 1)) (hr : μ.2.2.2.1 = some .int) (hq : Q (some (.int (iI z))) M n) (hce : ce ≤ μ.2.2.2.2.2.1.cells) (hsl : sl ≤ μ.2.2.2.2.2.1.slots) : G Γ μ A (EM Γ μ A Q) ce sl M n pc vs [.int (iI z)] := by
  intro p e s m args below meth c H locs ls CC h1 h2 h3 h4 h5
  obtain ⟨c1, c2, c3, c4, c5, c6, c7, c8, c9, c10, c11, c12, c13⟩ := id CC
  refine W.widen hce hsl ?_
  exact W.iret c1 c2 (c6.trans hr) (fun t ht hW => ⟨⟨_, M, rfl, by rw [ht]; exact h1, h3, by rw [ht, h2]; exact hq⟩, h4.F ht⟩) h4.2.2 hd c7
theorem g_zret {z : Int} {ty : FieldType} (hn : narrow ty (.int (iI z)) = .int (iI z)) (hd : decode μ.2.1 pc = .ok (.ireturn, 1)) (hr : μ.2.2.2.1 = some ty) (hq : Q (some (.int (iI z))) M n) (hce : ce ≤ μ.2.2.2.2.2.1.cells) (hsl : sl ≤ μ.2.2.2.2.2.1.slots) : G Γ μ A (EM Γ μ A Q) ce sl M n pc vs [.int (iI z)] := by
  intro p e s m args below meth c H locs ls CC h1 h2 h3 h4 h5
  obtain ⟨c1, c2, c3, c4, c5, c6, c7, c8, c9, c10, c11, c12, c13⟩ := id CC
  refine W.widen hce hsl ?_
  exact W.zret c1 c2 (c6.trans hr) hn (fun t ht hW => ⟨⟨_, M, rfl, by rw [ht]; exact h1, h3, by rw [ht, h2]; exact hq⟩, h4.F ht⟩) h4.2.2 hd c7
theorem g_vret (hd : decode μ.2.1 pc = .ok (.return_, 1)) (hr : μ.2.2.2.1 = none) (hq : Q (none) M n) (hce : ce ≤ μ.2.2.2.2.2.1.cells) (hsl : sl ≤ μ.2.2.2.2.2.1.slots) : G Γ μ A (EM Γ μ A Q) ce sl M n pc vs [] := by
  intro p e s m args below meth c H locs ls CC h1 h2 h3 h4 h5
  obtain ⟨c1, c2, c3, c4, c5, c6, c7, c8, c9, c10, c11, c12, c13⟩ := id CC
  refine W.widen hce hsl ?_
  exact W.vret c1 c2 (c6.trans hr) (fun t ht hW => ⟨⟨_, M, rfl, by rw [ht]; exact h1, h3, by rw [ht, h2]; exact hq⟩, h4.F ht⟩) h4.2.2 hd c7
theorem g_aret {v : Value} {rt : FieldType} (hrt : (∃ n, rt = .object n) ∨ ∃ t, rt = .array t) (hv : v = .null ∨ ∃ a, v = .ref a) (hd : decode μ.2.1 pc = .ok (.areturn, 1)) (hr : μ.2.2.2.1 = some rt) (hq : Q (some v) M n) (hce : ce ≤ μ.2.2.2.2.2.1.cells) (hsl : sl ≤ μ.2.2.2.2.2.1.slots) : G Γ μ A (EM Γ μ A Q) ce sl M n pc vs [v] := by
  intro p e s m args below meth c H locs ls CC h1 h2 h3 h4 h5
  obtain ⟨c1, c2, c3, c4, c5, c6, c7, c8, c9, c10, c11, c12, c13⟩ := id CC
  refine W.widen hce hsl ?_
  exact W.aret c1 c2 (c6.trans hr) hrt hv (fun t ht hW => ⟨⟨_, M, rfl, by rw [ht]; exact h1, h3, by rw [ht, h2]; exact hq⟩, h4.F ht⟩) h4.2.2 hd c7
theorem g_x (k : G Γ μ A (EM Γ μ A Q) ce sl M n pc vs st) : G Γ μ A (EX Γ μ A Q X) ce sl M n pc vs st := fun p e s m args below meth c H locs ls CC h1 h2 h3 h4 h5 => vx_ret (k p e s m args below meth c H locs ls CC h1 h2 h3 h4 h5)
theorem g_sub {p : Program} {e : Env} {s : State} {m : MethodId} {args : Array Value} {meth : Method} {c : Code} {H : Heap} {locs : List Loc} (CC : Ct Γ μ A p e s m args meth c) (h2 : H.size = n) (h3 : ∀ q, M q ≠ none → A q) (h4 : va_S A s.heap H locs) : ∀ q, AA M n q → A q := by
  intro q hq
  rcases hq with h | h
  · exact h3 q h
  · exact CC.2.2.2.2.2.2.2.2.2.1 q (Nat.le_trans h4.1 (by omega))
theorem g_pre {p : Program} {e : Env} {s : State} {m : MethodId} {args : Array Value} {meth : Method} {c : Code} {H : Heap} {locs : List Loc} {av : List Value} (CC : Ct Γ μ A p e s m args meth c) (h1 : HH Γ.2.1 cls M H) (h2 : H.size = n) (h3 : ∀ q, M q ≠ none → A q) (h4 : va_S A s.heap H locs) : ∀ U : State, U.heap = H → s.WarmedH U.vm → PC Γ av M n av.toArray U := by
  intro U hU hW
  obtain ⟨c1, c2, c3, c4, c5, c6, c7, c8, c9, c10, c11, c12, c13⟩ := id CC
  exact ⟨rfl, by rw [hU]; exact h1, by rw [hU]; exact h2, va_K.moved hW.alike c9, by rw [hU]; exact ZL.to hW c11 h4.2.1 (g_sub CC h2 h3 h4), c12⟩
theorem g_back {p : Program} {e : Env} {s : State} {m : MethodId} {args : Array Value} {below : List Frame} {meth : Method} {c : Code} {H : Heap} {locs : List Loc} {ls : Array Slot} {mc ms : Nat} {st0 : List Value} {a : Array Value}
    (CC : Ct Γ μ A p e s m args meth c) (h2 : H.size = n) (h3 : ∀ q, M q ≠ none → A q) (h4 : va_S A s.heap H locs) (h5 : LV ls μ.2.2.1 vs)
    (hr : va_Run p Γ.1 e μ.2.2.2.2.2.1 s m args below meth c H locs ce sl mc ms (F0 m pc ls st0) st (QC Γ (AA M n) Q' a) (AA M n))
    (k : ∀ (v : Option Value) (M' : HM) (n' : Nat), Q' v M' n' → n ≤ n' → (∀ q, M' q ≠ none → AA M n q) → G Γ μ A E (ce + mc) (sl + ms) M' n' (pc + 3) vs (v.toList ++ st)) :
    W p Γ.1 e μ.2.2.2.2.2.1 s m args below meth c H locs ce sl (E below args s) (F0 m pc ls st0) := by
  intro T hT X9
  obtain ⟨v, st₀, t, T', L, h0, X1, hL, e1, e2, ⟨⟨v', M', ho, hH, hD, hq⟩, hF⟩, stp⟩ := hr T hT X9
  have hv : v = v' := Outcome.returned.inj ho
  subst hv
  have hsub := g_sub CC h2 h3 h4
  obtain ⟨k1, k2, k3⟩ := vx_keep h0 e1 h4 (fun q _ h => hsub q h) hsub hL hF
  obtain ⟨t2, a1, b1⟩ := k v M' t.heap.size hq (by rw [← e1, ← h2]; exact k1) hD p e s m args below meth c T'.heap (locs ++ L) ls CC (by rw [e1]; exact hH) (by rw [e1]) (fun q hq => hsub q (hD q hq)) k3 h5 T' rfl X1
  exact ⟨t2, stp t2 a1, b1⟩

theorem g_callV0 {index b ci : Nat} {fs : List Value} {r : vw_C} (hw : CW μ.1 index y ν 0) (hi : Cond.instanceMethod y ∈ TB) (hs : Cond.selects y.cls y y ∈ TB) (hC : CT Γ ν y (.ref b :: []) M n Q') (hd : decode μ.2.1 pc = .ok (.invokevirtual index, 3)) (hM : M b = some (.inr (ci, fs))) (hc : cls[ci]? = some r) (hrc : r.1 = y.cls) (hR : RM μ ν ce sl) (hcat : (st.map fun v => v.category).sum ≤ 8) (k : ∀ (v : Option Value) (M' : HM) (n' : Nat), Q' v M' n' → n ≤ n' → (∀ q, M' q ≠ none → AA M n q) → G Γ μ A E (ce + ν.2.2.2.2.2.1.cells) (sl + ν.2.2.2.2.2.1.slots) M' n' (pc + 3) vs (v.toList ++ st)) : G Γ μ A E ce sl M n pc vs (.ref b :: st) := by
  intro p e s m args below meth c H locs ls CC h1 h2 h3 h4 h5
  obtain ⟨c1, c2, c3, c4, c5, c6, c7, c8, c9, c10, c11, c12, c13⟩ := id CC

  refine g_back (a := (Value.ref b :: []).toArray) CC h2 h3 h4 h5 (va_runV (As := []) (rest := st) ⟨c1, c2, c3, c4, c5⟩ hC (cwV 0 c5 (good_TB (fun w hw9 => ?_)) rfl rfl rfl ⟨rfl, hw.2.2.2⟩ hR.1) ⟨pc_blind, ?_, g_pre CC h1 h2 h3 h4⟩ rfl rfl h5.1 rfl (lv_room hcat) hd hR.2) k
  · rcases List.mem_append.mp hw9 with h | h
    · simp only [List.mem_cons, List.not_mem_nil, or_false] at h
      rcases h with rfl | rfl | rfl | rfl
      · exact hw.1
      · exact hi
      · exact hs
      · exact hw.2.1
    · exact cw_in hw.2.2.1 w h
  · have h9 := va_recv c9 (h1.one hM) hc (q0 := 0) rfl
    rw [hrc] at h9
    exact h9
theorem g_callV1 {index b ci : Nat} {fs : List Value} {r : vw_C} {x1 : Value} (hw : CW μ.1 index y ν 1) (hi : Cond.instanceMethod y ∈ TB) (hs : Cond.selects y.cls y y ∈ TB) (hC : CT Γ ν y (.ref b :: [x1]) M n Q') (hd : decode μ.2.1 pc = .ok (.invokevirtual index, 3)) (hM : M b = some (.inr (ci, fs))) (hc : cls[ci]? = some r) (hrc : r.1 = y.cls) (hR : RM μ ν ce sl) (hcat : (st.map fun v => v.category).sum ≤ 8) (k : ∀ (v : Option Value) (M' : HM) (n' : Nat), Q' v M' n' → n ≤ n' → (∀ q, M' q ≠ none → AA M n q) → G Γ μ A E (ce + ν.2.2.2.2.2.1.cells) (sl + ν.2.2.2.2.2.1.slots) M' n' (pc + 3) vs (v.toList ++ st)) : G Γ μ A E ce sl M n pc vs (x1 :: .ref b :: st) := by
  intro p e s m args below meth c H locs ls CC h1 h2 h3 h4 h5
  obtain ⟨c1, c2, c3, c4, c5, c6, c7, c8, c9, c10, c11, c12, c13⟩ := id CC

  refine g_back (a := (Value.ref b :: [x1]).toArray) CC h2 h3 h4 h5 (va_runV (As := [x1]) (rest := st) ⟨c1, c2, c3, c4, c5⟩ hC (cwV 1 c5 (good_TB (fun w hw9 => ?_)) rfl rfl rfl ⟨rfl, hw.2.2.2⟩ hR.1) ⟨pc_blind, ?_, g_pre CC h1 h2 h3 h4⟩ rfl rfl h5.1 rfl (lv_room hcat) hd hR.2) k
  · rcases List.mem_append.mp hw9 with h | h
    · simp only [List.mem_cons, List.not_mem_nil, or_false] at h
      rcases h with rfl | rfl | rfl | rfl
      · exact hw.1
      · exact hi
      · exact hs
      · exact hw.2.1
    · exact cw_in hw.2.2.1 w h
  · have h9 := va_recv c9 (h1.one hM) hc (q0 := 0) rfl
    rw [hrc] at h9
    exact h9
theorem g_callV2 {index b ci : Nat} {fs : List Value} {r : vw_C} {x1 x2 : Value} (hw : CW μ.1 index y ν 2) (hi : Cond.instanceMethod y ∈ TB) (hs : Cond.selects y.cls y y ∈ TB) (hC : CT Γ ν y (.ref b :: [x1, x2]) M n Q') (hd : decode μ.2.1 pc = .ok (.invokevirtual index, 3)) (hM : M b = some (.inr (ci, fs))) (hc : cls[ci]? = some r) (hrc : r.1 = y.cls) (hR : RM μ ν ce sl) (hcat : (st.map fun v => v.category).sum ≤ 8) (k : ∀ (v : Option Value) (M' : HM) (n' : Nat), Q' v M' n' → n ≤ n' → (∀ q, M' q ≠ none → AA M n q) → G Γ μ A E (ce + ν.2.2.2.2.2.1.cells) (sl + ν.2.2.2.2.2.1.slots) M' n' (pc + 3) vs (v.toList ++ st)) : G Γ μ A E ce sl M n pc vs (x2 :: x1 :: .ref b :: st) := by
  intro p e s m args below meth c H locs ls CC h1 h2 h3 h4 h5
  obtain ⟨c1, c2, c3, c4, c5, c6, c7, c8, c9, c10, c11, c12, c13⟩ := id CC

  refine g_back (a := (Value.ref b :: [x1, x2]).toArray) CC h2 h3 h4 h5 (va_runV (As := [x1, x2]) (rest := st) ⟨c1, c2, c3, c4, c5⟩ hC (cwV 2 c5 (good_TB (fun w hw9 => ?_)) rfl rfl rfl ⟨rfl, hw.2.2.2⟩ hR.1) ⟨pc_blind, ?_, g_pre CC h1 h2 h3 h4⟩ rfl rfl h5.1 rfl (lv_room hcat) hd hR.2) k
  · rcases List.mem_append.mp hw9 with h | h
    · simp only [List.mem_cons, List.not_mem_nil, or_false] at h
      rcases h with rfl | rfl | rfl | rfl
      · exact hw.1
      · exact hi
      · exact hs
      · exact hw.2.1
    · exact cw_in hw.2.2.1 w h
  · have h9 := va_recv c9 (h1.one hM) hc (q0 := 0) rfl
    rw [hrc] at h9
    exact h9
theorem g_callV3 {index b ci : Nat} {fs : List Value} {r : vw_C} {x1 x2 x3 : Value} (hw : CW μ.1 index y ν 3) (hi : Cond.instanceMethod y ∈ TB) (hs : Cond.selects y.cls y y ∈ TB) (hC : CT Γ ν y (.ref b :: [x1, x2, x3]) M n Q') (hd : decode μ.2.1 pc = .ok (.invokevirtual index, 3)) (hM : M b = some (.inr (ci, fs))) (hc : cls[ci]? = some r) (hrc : r.1 = y.cls) (hR : RM μ ν ce sl) (hcat : (st.map fun v => v.category).sum ≤ 8) (k : ∀ (v : Option Value) (M' : HM) (n' : Nat), Q' v M' n' → n ≤ n' → (∀ q, M' q ≠ none → AA M n q) → G Γ μ A E (ce + ν.2.2.2.2.2.1.cells) (sl + ν.2.2.2.2.2.1.slots) M' n' (pc + 3) vs (v.toList ++ st)) : G Γ μ A E ce sl M n pc vs (x3 :: x2 :: x1 :: .ref b :: st) := by
  intro p e s m args below meth c H locs ls CC h1 h2 h3 h4 h5
  obtain ⟨c1, c2, c3, c4, c5, c6, c7, c8, c9, c10, c11, c12, c13⟩ := id CC

  refine g_back (a := (Value.ref b :: [x1, x2, x3]).toArray) CC h2 h3 h4 h5 (va_runV (As := [x1, x2, x3]) (rest := st) ⟨c1, c2, c3, c4, c5⟩ hC (cwV 3 c5 (good_TB (fun w hw9 => ?_)) rfl rfl rfl ⟨rfl, hw.2.2.2⟩ hR.1) ⟨pc_blind, ?_, g_pre CC h1 h2 h3 h4⟩ rfl rfl h5.1 rfl (lv_room hcat) hd hR.2) k
  · rcases List.mem_append.mp hw9 with h | h
    · simp only [List.mem_cons, List.not_mem_nil, or_false] at h
      rcases h with rfl | rfl | rfl | rfl
      · exact hw.1
      · exact hi
      · exact hs
      · exact hw.2.1
    · exact cw_in hw.2.2.1 w h
  · have h9 := va_recv c9 (h1.one hM) hc (q0 := 0) rfl
    rw [hrc] at h9
    exact h9
theorem g_callVN0 {index b ci : Nat} {fs : List Value} {r : vw_C} (hw : CWN μ.1 index y ν 0) (hi : Cond.instanceMethod y ∈ TB) (hs : Cond.selects y.cls y y ∈ TB) (hC : CT Γ ν y (.ref b :: []) M n Q') (hd : decode μ.2.1 pc = .ok (.invokevirtual index, 3)) (hM : M b = some (.inr (ci, fs))) (hc : cls[ci]? = some r) (hrc : r.1 = y.cls) (hR : RM μ ν ce sl) (hcat : (st.map fun v => v.category).sum ≤ 8) (k : ∀ (v : Option Value) (M' : HM) (n' : Nat), Q' v M' n' → n ≤ n' → (∀ q, M' q ≠ none → AA M n q) → G Γ μ A E (ce + ν.2.2.2.2.2.1.cells) (sl + ν.2.2.2.2.2.1.slots) M' n' (pc + 3) vs (v.toList ++ st)) : G Γ μ A E ce sl M n pc vs (.ref b :: st) := by
  intro p e s m args below meth c H locs ls CC h1 h2 h3 h4 h5
  obtain ⟨c1, c2, c3, c4, c5, c6, c7, c8, c9, c10, c11, c12, c13⟩ := id CC

  obtain ⟨⟨host, hn9⟩, hini, hcd, hdd⟩ := hw
  refine g_back (a := (Value.ref b :: []).toArray) CC h2 h3 h4 h5 (va_runVN (C := y.cls) (As := []) (rest := st) ⟨c1, c2, c3, c4, c5⟩ hC ⟨va_cnB 0 c5 (good_TB (cw_in hcd)) rfl rfl rfl (va_Nw.of rfl (c11.nb (args := #[]) hn9)) (c5 _ hini) hdd hR.1, c5 _ hi, c5 _ hs⟩ ⟨pc_blind, ?_, g_pre CC h1 h2 h3 h4⟩ rfl rfl h5.1 rfl (lv_room hcat) hd hR.2) k
  have h9 := va_recv c9 (h1.one hM) hc (q0 := 0) rfl
  rw [hrc] at h9
  exact h9
theorem g_callVN1 {index b ci : Nat} {fs : List Value} {r : vw_C} {x1 : Value} (hw : CWN μ.1 index y ν 1) (hi : Cond.instanceMethod y ∈ TB) (hs : Cond.selects y.cls y y ∈ TB) (hC : CT Γ ν y (.ref b :: [x1]) M n Q') (hd : decode μ.2.1 pc = .ok (.invokevirtual index, 3)) (hM : M b = some (.inr (ci, fs))) (hc : cls[ci]? = some r) (hrc : r.1 = y.cls) (hR : RM μ ν ce sl) (hcat : (st.map fun v => v.category).sum ≤ 8) (k : ∀ (v : Option Value) (M' : HM) (n' : Nat), Q' v M' n' → n ≤ n' → (∀ q, M' q ≠ none → AA M n q) → G Γ μ A E (ce + ν.2.2.2.2.2.1.cells) (sl + ν.2.2.2.2.2.1.slots) M' n' (pc + 3) vs (v.toList ++ st)) : G Γ μ A E ce sl M n pc vs (x1 :: .ref b :: st) := by
  intro p e s m args below meth c H locs ls CC h1 h2 h3 h4 h5
  obtain ⟨c1, c2, c3, c4, c5, c6, c7, c8, c9, c10, c11, c12, c13⟩ := id CC

  obtain ⟨⟨host, hn9⟩, hini, hcd, hdd⟩ := hw
  refine g_back (a := (Value.ref b :: [x1]).toArray) CC h2 h3 h4 h5 (va_runVN (C := y.cls) (As := [x1]) (rest := st) ⟨c1, c2, c3, c4, c5⟩ hC ⟨va_cnB 1 c5 (good_TB (cw_in hcd)) rfl rfl rfl (va_Nw.of rfl (c11.nb (args := #[]) hn9)) (c5 _ hini) hdd hR.1, c5 _ hi, c5 _ hs⟩ ⟨pc_blind, ?_, g_pre CC h1 h2 h3 h4⟩ rfl rfl h5.1 rfl (lv_room hcat) hd hR.2) k
  have h9 := va_recv c9 (h1.one hM) hc (q0 := 0) rfl
  rw [hrc] at h9
  exact h9
theorem g_callVN2 {index b ci : Nat} {fs : List Value} {r : vw_C} {x1 x2 : Value} (hw : CWN μ.1 index y ν 2) (hi : Cond.instanceMethod y ∈ TB) (hs : Cond.selects y.cls y y ∈ TB) (hC : CT Γ ν y (.ref b :: [x1, x2]) M n Q') (hd : decode μ.2.1 pc = .ok (.invokevirtual index, 3)) (hM : M b = some (.inr (ci, fs))) (hc : cls[ci]? = some r) (hrc : r.1 = y.cls) (hR : RM μ ν ce sl) (hcat : (st.map fun v => v.category).sum ≤ 8) (k : ∀ (v : Option Value) (M' : HM) (n' : Nat), Q' v M' n' → n ≤ n' → (∀ q, M' q ≠ none → AA M n q) → G Γ μ A E (ce + ν.2.2.2.2.2.1.cells) (sl + ν.2.2.2.2.2.1.slots) M' n' (pc + 3) vs (v.toList ++ st)) : G Γ μ A E ce sl M n pc vs (x2 :: x1 :: .ref b :: st) := by
  intro p e s m args below meth c H locs ls CC h1 h2 h3 h4 h5
  obtain ⟨c1, c2, c3, c4, c5, c6, c7, c8, c9, c10, c11, c12, c13⟩ := id CC

  obtain ⟨⟨host, hn9⟩, hini, hcd, hdd⟩ := hw
  refine g_back (a := (Value.ref b :: [x1, x2]).toArray) CC h2 h3 h4 h5 (va_runVN (C := y.cls) (As := [x1, x2]) (rest := st) ⟨c1, c2, c3, c4, c5⟩ hC ⟨va_cnB 2 c5 (good_TB (cw_in hcd)) rfl rfl rfl (va_Nw.of rfl (c11.nb (args := #[]) hn9)) (c5 _ hini) hdd hR.1, c5 _ hi, c5 _ hs⟩ ⟨pc_blind, ?_, g_pre CC h1 h2 h3 h4⟩ rfl rfl h5.1 rfl (lv_room hcat) hd hR.2) k
  have h9 := va_recv c9 (h1.one hM) hc (q0 := 0) rfl
  rw [hrc] at h9
  exact h9
theorem g_callS0 {index : Nat} (hw : CW μ.1 index y ν 0) (hs : Cond.static y ∈ TB) (hC : CT Γ ν y [] M n Q') (hd : decode μ.2.1 pc = .ok (.invokestatic index, 3)) (hR : RM μ ν ce sl) (hcat : (st.map fun v => v.category).sum ≤ 8) (k : ∀ (v : Option Value) (M' : HM) (n' : Nat), Q' v M' n' → n ≤ n' → (∀ q, M' q ≠ none → AA M n q) → G Γ μ A E (ce + ν.2.2.2.2.2.1.cells) (sl + ν.2.2.2.2.2.1.slots) M' n' (pc + 3) vs (v.toList ++ st)) : G Γ μ A E ce sl M n pc vs (st) := by
  intro p e s m args below meth c H locs ls CC h1 h2 h3 h4 h5
  obtain ⟨c1, c2, c3, c4, c5, c6, c7, c8, c9, c10, c11, c12, c13⟩ := id CC
  exact g_back (a := [].toArray) CC h2 h3 h4 h5 (va_runS (As := []) (rest := st) ⟨c1, c2, c3, c4, c5⟩ hC ⟨callB_of 0 c5 (good_TB (cw_in hw.2.2.1)) rfl rfl rfl (c5 _ hw.2.1) (c5 _ hw.1) hw.2.2.2 hR.1, c5 _ hs⟩ ⟨pc_blind, g_pre CC h1 h2 h3 h4⟩ rfl rfl h5.1 rfl (lv_room hcat) hd hR.2) k
theorem g_callS1 {index : Nat} {x1 : Value} (hw : CW μ.1 index y ν 1) (hs : Cond.static y ∈ TB) (hC : CT Γ ν y [x1] M n Q') (hd : decode μ.2.1 pc = .ok (.invokestatic index, 3)) (hR : RM μ ν ce sl) (hcat : (st.map fun v => v.category).sum ≤ 8) (k : ∀ (v : Option Value) (M' : HM) (n' : Nat), Q' v M' n' → n ≤ n' → (∀ q, M' q ≠ none → AA M n q) → G Γ μ A E (ce + ν.2.2.2.2.2.1.cells) (sl + ν.2.2.2.2.2.1.slots) M' n' (pc + 3) vs (v.toList ++ st)) : G Γ μ A E ce sl M n pc vs (x1 :: st) := by
  intro p e s m args below meth c H locs ls CC h1 h2 h3 h4 h5
  obtain ⟨c1, c2, c3, c4, c5, c6, c7, c8, c9, c10, c11, c12, c13⟩ := id CC
  exact g_back (a := [x1].toArray) CC h2 h3 h4 h5 (va_runS (As := [x1]) (rest := st) ⟨c1, c2, c3, c4, c5⟩ hC ⟨callB_of 1 c5 (good_TB (cw_in hw.2.2.1)) rfl rfl rfl (c5 _ hw.2.1) (c5 _ hw.1) hw.2.2.2 hR.1, c5 _ hs⟩ ⟨pc_blind, g_pre CC h1 h2 h3 h4⟩ rfl rfl h5.1 rfl (lv_room hcat) hd hR.2) k
theorem g_callS2 {index : Nat} {x1 x2 : Value} (hw : CW μ.1 index y ν 2) (hs : Cond.static y ∈ TB) (hC : CT Γ ν y [x1, x2] M n Q') (hd : decode μ.2.1 pc = .ok (.invokestatic index, 3)) (hR : RM μ ν ce sl) (hcat : (st.map fun v => v.category).sum ≤ 8) (k : ∀ (v : Option Value) (M' : HM) (n' : Nat), Q' v M' n' → n ≤ n' → (∀ q, M' q ≠ none → AA M n q) → G Γ μ A E (ce + ν.2.2.2.2.2.1.cells) (sl + ν.2.2.2.2.2.1.slots) M' n' (pc + 3) vs (v.toList ++ st)) : G Γ μ A E ce sl M n pc vs (x2 :: x1 :: st) := by
  intro p e s m args below meth c H locs ls CC h1 h2 h3 h4 h5
  obtain ⟨c1, c2, c3, c4, c5, c6, c7, c8, c9, c10, c11, c12, c13⟩ := id CC
  exact g_back (a := [x1, x2].toArray) CC h2 h3 h4 h5 (va_runS (As := [x1, x2]) (rest := st) ⟨c1, c2, c3, c4, c5⟩ hC ⟨callB_of 2 c5 (good_TB (cw_in hw.2.2.1)) rfl rfl rfl (c5 _ hw.2.1) (c5 _ hw.1) hw.2.2.2 hR.1, c5 _ hs⟩ ⟨pc_blind, g_pre CC h1 h2 h3 h4⟩ rfl rfl h5.1 rfl (lv_room hcat) hd hR.2) k
theorem g_callS3 {index : Nat} {x1 x2 x3 : Value} (hw : CW μ.1 index y ν 3) (hs : Cond.static y ∈ TB) (hC : CT Γ ν y [x1, x2, x3] M n Q') (hd : decode μ.2.1 pc = .ok (.invokestatic index, 3)) (hR : RM μ ν ce sl) (hcat : (st.map fun v => v.category).sum ≤ 8) (k : ∀ (v : Option Value) (M' : HM) (n' : Nat), Q' v M' n' → n ≤ n' → (∀ q, M' q ≠ none → AA M n q) → G Γ μ A E (ce + ν.2.2.2.2.2.1.cells) (sl + ν.2.2.2.2.2.1.slots) M' n' (pc + 3) vs (v.toList ++ st)) : G Γ μ A E ce sl M n pc vs (x3 :: x2 :: x1 :: st) := by
  intro p e s m args below meth c H locs ls CC h1 h2 h3 h4 h5
  obtain ⟨c1, c2, c3, c4, c5, c6, c7, c8, c9, c10, c11, c12, c13⟩ := id CC
  exact g_back (a := [x1, x2, x3].toArray) CC h2 h3 h4 h5 (va_runS (As := [x1, x2, x3]) (rest := st) ⟨c1, c2, c3, c4, c5⟩ hC ⟨callB_of 3 c5 (good_TB (cw_in hw.2.2.1)) rfl rfl rfl (c5 _ hw.2.1) (c5 _ hw.1) hw.2.2.2 hR.1, c5 _ hs⟩ ⟨pc_blind, g_pre CC h1 h2 h3 h4⟩ rfl rfl h5.1 rfl (lv_room hcat) hd hR.2) k
theorem g_callI0 {index b : Nat} (hw : CW μ.1 index y ν 0) (hi : Cond.instanceMethod y ∈ TB) (hin : y.name = "<init>") (hrt : ν.2.2.2.1 = none) (hC : CT Γ ν y (.ref b :: []) M n Q') (hd : decode μ.2.1 pc = .ok (.invokespecial index, 3)) (hR : RM μ ν ce sl) (hcat : (st.map fun v => v.category).sum ≤ 8) (k : ∀ (v : Option Value) (M' : HM) (n' : Nat), Q' v M' n' → n ≤ n' → (∀ q, M' q ≠ none → AA M n q) → G Γ μ A E (ce + ν.2.2.2.2.2.1.cells) (sl + ν.2.2.2.2.2.1.slots) M' n' (pc + 3) vs (v.toList ++ st)) : G Γ μ A E ce sl M n pc vs (.ref b :: st) := by
  intro p e s m args below meth c H locs ls CC h1 h2 h3 h4 h5
  obtain ⟨c1, c2, c3, c4, c5, c6, c7, c8, c9, c10, c11, c12, c13⟩ := id CC
  unfold CT at hC
  rw [hrt] at hC

  have hcd := hw.2.2.1
  have hcd9 := cw_in hcd
  rw [hrt] at hcd9
  exact g_back (a := (Value.ref b :: []).toArray) CC h2 h3 h4 h5 (va_runI (As := []) (rest := st) ⟨c1, c2, c3, c4, c5⟩ hC (cwI 0 c5 (good_TB hcd9) rfl rfl rfl (c5 _ hw.2.1) (c5 _ hw.1) (c5 _ hi) hin hw.2.2.2 hR.1) ⟨pc_blind, g_pre CC h1 h2 h3 h4⟩ rfl rfl h5.1 rfl (lv_room hcat) hd hR.2) k
theorem g_callI1 {index b : Nat} {x1 : Value} (hw : CW μ.1 index y ν 1) (hi : Cond.instanceMethod y ∈ TB) (hin : y.name = "<init>") (hrt : ν.2.2.2.1 = none) (hC : CT Γ ν y (.ref b :: [x1]) M n Q') (hd : decode μ.2.1 pc = .ok (.invokespecial index, 3)) (hR : RM μ ν ce sl) (hcat : (st.map fun v => v.category).sum ≤ 8) (k : ∀ (v : Option Value) (M' : HM) (n' : Nat), Q' v M' n' → n ≤ n' → (∀ q, M' q ≠ none → AA M n q) → G Γ μ A E (ce + ν.2.2.2.2.2.1.cells) (sl + ν.2.2.2.2.2.1.slots) M' n' (pc + 3) vs (v.toList ++ st)) : G Γ μ A E ce sl M n pc vs (x1 :: .ref b :: st) := by
  intro p e s m args below meth c H locs ls CC h1 h2 h3 h4 h5
  obtain ⟨c1, c2, c3, c4, c5, c6, c7, c8, c9, c10, c11, c12, c13⟩ := id CC
  unfold CT at hC
  rw [hrt] at hC

  have hcd := hw.2.2.1
  have hcd9 := cw_in hcd
  rw [hrt] at hcd9
  exact g_back (a := (Value.ref b :: [x1]).toArray) CC h2 h3 h4 h5 (va_runI (As := [x1]) (rest := st) ⟨c1, c2, c3, c4, c5⟩ hC (cwI 1 c5 (good_TB hcd9) rfl rfl rfl (c5 _ hw.2.1) (c5 _ hw.1) (c5 _ hi) hin hw.2.2.2 hR.1) ⟨pc_blind, g_pre CC h1 h2 h3 h4⟩ rfl rfl h5.1 rfl (lv_room hcat) hd hR.2) k
theorem g_callIN0 {index b : Nat} (hw : CWN μ.1 index y ν 0) (hi : Cond.instanceMethod y ∈ TB) (hin : y.name = "<init>") (hrt : ν.2.2.2.1 = none) (hC : CT Γ ν y (.ref b :: []) M n Q') (hd : decode μ.2.1 pc = .ok (.invokespecial index, 3)) (hR : RM μ ν ce sl) (hcat : (st.map fun v => v.category).sum ≤ 8) (k : ∀ (v : Option Value) (M' : HM) (n' : Nat), Q' v M' n' → n ≤ n' → (∀ q, M' q ≠ none → AA M n q) → G Γ μ A E (ce + ν.2.2.2.2.2.1.cells) (sl + ν.2.2.2.2.2.1.slots) M' n' (pc + 3) vs (v.toList ++ st)) : G Γ μ A E ce sl M n pc vs (.ref b :: st) := by
  intro p e s m args below meth c H locs ls CC h1 h2 h3 h4 h5
  obtain ⟨c1, c2, c3, c4, c5, c6, c7, c8, c9, c10, c11, c12, c13⟩ := id CC
  unfold CT at hC
  rw [hrt] at hC

  obtain ⟨⟨host, hn9⟩, hini, hcd, hdd⟩ := hw
  have hcd9 := cw_in hcd
  rw [hrt] at hcd9
  exact g_back (a := (Value.ref b :: []).toArray) CC h2 h3 h4 h5 (va_runIN (As := []) (rest := st) ⟨c1, c2, c3, c4, c5⟩ hC ⟨va_cnB 0 c5 (good_TB hcd9) rfl rfl rfl (va_Nw.of rfl (c11.nb (args := #[]) hn9)) (c5 _ hini) hdd hR.1, hin, c5 _ hi⟩ ⟨pc_blind, g_pre CC h1 h2 h3 h4⟩ rfl rfl h5.1 rfl (lv_room hcat) hd hR.2) k
theorem g_callIN1 {index b : Nat} {x1 : Value} (hw : CWN μ.1 index y ν 1) (hi : Cond.instanceMethod y ∈ TB) (hin : y.name = "<init>") (hrt : ν.2.2.2.1 = none) (hC : CT Γ ν y (.ref b :: [x1]) M n Q') (hd : decode μ.2.1 pc = .ok (.invokespecial index, 3)) (hR : RM μ ν ce sl) (hcat : (st.map fun v => v.category).sum ≤ 8) (k : ∀ (v : Option Value) (M' : HM) (n' : Nat), Q' v M' n' → n ≤ n' → (∀ q, M' q ≠ none → AA M n q) → G Γ μ A E (ce + ν.2.2.2.2.2.1.cells) (sl + ν.2.2.2.2.2.1.slots) M' n' (pc + 3) vs (v.toList ++ st)) : G Γ μ A E ce sl M n pc vs (x1 :: .ref b :: st) := by
  intro p e s m args below meth c H locs ls CC h1 h2 h3 h4 h5
  obtain ⟨c1, c2, c3, c4, c5, c6, c7, c8, c9, c10, c11, c12, c13⟩ := id CC
  unfold CT at hC
  rw [hrt] at hC

  obtain ⟨⟨host, hn9⟩, hini, hcd, hdd⟩ := hw
  have hcd9 := cw_in hcd
  rw [hrt] at hcd9
  exact g_back (a := (Value.ref b :: [x1]).toArray) CC h2 h3 h4 h5 (va_runIN (As := [x1]) (rest := st) ⟨c1, c2, c3, c4, c5⟩ hC ⟨va_cnB 1 c5 (good_TB hcd9) rfl rfl rfl (va_Nw.of rfl (c11.nb (args := #[]) hn9)) (c5 _ hini) hdd hR.1, hin, c5 _ hi⟩ ⟨pc_blind, g_pre CC h1 h2 h3 h4⟩ rfl rfl h5.1 rfl (lv_room hcat) hd hR.2) k
theorem g_backX {p : Program} {e : Env} {s : State} {m : MethodId} {args : Array Value} {below : List Frame} {meth : Method} {c : Code} {H : Heap} {locs : List Loc} {ls : Array Slot} {mc ms : Nat} {st0 : List Value} {a : Array Value}
    (CC : Ct Γ μ A p e s m args meth c) (h2 : H.size = n) (h3 : ∀ q, M q ≠ none → A q) (h4 : va_S A s.heap H locs) (h5 : LV ls μ.2.2.1 vs)
    (hr : vx_Run p Γ.1 e μ.2.2.2.2.2.1 s m args below meth c H locs ce sl mc ms (F0 m pc ls st0) st (QC Γ (AA M n) Q' a) (XQ Γ (AA M n) X') (AA M n))
    (kx : ∀ (C : String) (M' : HM) (q : Addr) (cell : Cell) (H1 : Heap) (locs1 : List Loc), X' C M' H1.size → n ≤ H1.size → (∀ q, M' q ≠ none → AA M n q) → HH Γ.2.1 cls M' H1 → (∀ q, M' q ≠ none → A q) → va_S A s.heap H1 locs1 → H1[q]? = some cell → cell.vm = .none → s.vm.findClass C = some cell.cls → vx_W p Γ.1 e μ.2.2.2.2.2.1 s m args below meth c H1 locs1 (ce + mc) (sl + ms) (E below args s) (F0 m pc ls st) q)
    (k : ∀ (v : Option Value) (M' : HM) (n' : Nat), Q' v M' n' → n ≤ n' → (∀ q, M' q ≠ none → AA M n q) → G Γ μ A E (ce + mc) (sl + ms) M' n' (pc + 3) vs (v.toList ++ st)) :
    W p Γ.1 e μ.2.2.2.2.2.1 s m args below meth c H locs ce sl (E below args s) (F0 m pc ls st0) := by
  intro T hT X9
  have hsub := g_sub CC h2 h3 h4
  rcases hr T hT X9 with ⟨v, st₀, t, T', L, h0, X1, hL, e1, e2, ⟨⟨v', M', ho, hH, hD, hq⟩, hF⟩, stp⟩ | ⟨q, st₀, t, T', L, C, cell, h0, X1, hL, e1, e2, ⟨⟨M', hH, hD, hx⟩, hF⟩, hce, hcv, hcl, stp⟩
  · have hv : v = v' := Outcome.returned.inj ho
    subst hv
    obtain ⟨k1, k2, k3⟩ := vx_keep h0 e1 h4 (fun q _ h => hsub q h) hsub hL hF
    obtain ⟨t2, a1, b1⟩ := k v M' t.heap.size hq (by rw [← e1, ← h2]; exact k1) hD p e s m args below meth c T'.heap (locs ++ L) ls CC (by rw [e1]; exact hH) (by rw [e1]) (fun q hq => hsub q (hD q hq)) k3 h5 T' rfl X1
    exact ⟨t2, stp t2 a1, b1⟩
  · obtain ⟨k1, k2, k3⟩ := vx_keep h0 e1 h4 (fun q _ h => hsub q h) hsub hL hF
    obtain ⟨t2, a1, b1⟩ := kx C M' q cell T'.heap (locs ++ L) (by rw [e1]; exact hx) (by rw [← h2]; exact k1) hD (by rw [e1]; exact hH) (fun q hq => hsub q (hD q hq)) k3 (by rw [e1]; exact hce) hcv hcl T' rfl X1
    exact ⟨t2, stp.trans a1, b1⟩
/-- not caught in this method -/
theorem g_out {p : Program} {e : Env} {s : State} {m : MethodId} {args : Array Value} {below : List Frame} {meth : Method} {c : Code} {H1 : Heap} {locs1 : List Loc} {ls : Array Slot} {C : String} {M' : HM} {q : Addr} {cell : Cell}
    (CC : Ct Γ μ A p e s m args meth c) (hhh : μ.2.2.2.2.2.2 = []) (hX : X C M' H1.size) (h1 : HH Γ.2.1 cls M' H1) (h3 : ∀ q, M' q ≠ none → A q) (h4 : va_S A s.heap H1 locs1) (hc : H1[q]? = some cell) (hv : cell.vm = .none) (hcl : s.vm.findClass C = some cell.cls) (hce : ce ≤ μ.2.2.2.2.2.1.cells) (hsl : sl ≤ μ.2.2.2.2.2.1.slots) :
    vx_W p Γ.1 e μ.2.2.2.2.2.1 s m args below meth c H1 locs1 ce sl (EX Γ μ A Q X below args s) (F0 m pc ls st) q := by
  obtain ⟨c1, c2, c3, c4, c5, c6, c7, c8, c9, c10, c11, c12, c13⟩ := id CC
  exact vx_out (E := C) (fun x hx => by rw [c13, hhh] at hx; exact nomatch hx) c7 hc hv hcl (fun t ht _ => ⟨⟨M', by rw [ht]; exact h1, h3, by rw [ht]; exact hX⟩, h4.F ht⟩) h4.2.2 hce hsl

theorem g_callVX1 {index b ci : Nat} {fs : List Value} {r : vw_C} {x1 : Value} (hw : CW μ.1 index y ν 1) (hi : Cond.instanceMethod y ∈ TB) (hs : Cond.selects y.cls y y ∈ TB) (hC : CX Γ ν y (.ref b :: [x1]) M n Q' X') (hd : decode μ.2.1 pc = .ok (.invokevirtual index, 3)) (hM : M b = some (.inr (ci, fs))) (hc : cls[ci]? = some r) (hrc : r.1 = y.cls) (hR : RM μ ν ce sl) (hcat : (st.map fun v => v.category).sum ≤ 8) (hhh : μ.2.2.2.2.2.2 = []) (kx : ∀ (C : String) (M' : HM) (n' : Nat), X' C M' n' → n ≤ n' → (∀ q, M' q ≠ none → AA M n q) → X C M' n') (k : ∀ (v : Option Value) (M' : HM) (n' : Nat), Q' v M' n' → n ≤ n' → (∀ q, M' q ≠ none → AA M n q) → G Γ μ A (EX Γ μ A Q X) (ce + ν.2.2.2.2.2.1.cells) (sl + ν.2.2.2.2.2.1.slots) M' n' (pc + 3) vs (v.toList ++ st)) : G Γ μ A (EX Γ μ A Q X) ce sl M n pc vs (x1 :: .ref b :: st) := by
  intro p e s m args below meth c H locs ls CC h1 h2 h3 h4 h5
  obtain ⟨c1, c2, c3, c4, c5, c6, c7, c8, c9, c10, c11, c12, c13⟩ := id CC
  refine g_backX (a := (Value.ref b :: [x1]).toArray) CC h2 h3 h4 h5 (vx_runV (As := [x1]) (rest := st) ⟨c1, c2, c3, c4, c5⟩ hC (cwV 1 c5 (good_TB (fun w hw9 => ?_)) rfl rfl rfl ⟨rfl, hw.2.2.2⟩ hR.1) ⟨pc_blind, ?_, g_pre CC h1 h2 h3 h4⟩ rfl rfl h5.1 rfl (lv_room hcat) hd hR.2) (fun C M' q cell H1 locs1 a1 a2 a3 a4 a5 a6 a7 a8 a9 => g_out CC hhh (kx C M' H1.size a1 a2 a3) a4 a5 a6 a7 a8 a9 hR.2.1 hR.2.2) k
  · rcases List.mem_append.mp hw9 with h | h
    · simp only [List.mem_cons, List.not_mem_nil, or_false] at h
      rcases h with rfl | rfl | rfl | rfl
      · exact hw.1
      · exact hi
      · exact hs
      · exact hw.2.1
    · exact cw_in hw.2.2.1 w h
  · have h9 := va_recv c9 (h1.one hM) hc (q0 := 0) rfl
    rw [hrc] at h9
    exact h9
theorem g_callVX2 {index b ci : Nat} {fs : List Value} {r : vw_C} {x1 x2 : Value} (hw : CW μ.1 index y ν 2) (hi : Cond.instanceMethod y ∈ TB) (hs : Cond.selects y.cls y y ∈ TB) (hC : CX Γ ν y (.ref b :: [x1, x2]) M n Q' X') (hd : decode μ.2.1 pc = .ok (.invokevirtual index, 3)) (hM : M b = some (.inr (ci, fs))) (hc : cls[ci]? = some r) (hrc : r.1 = y.cls) (hR : RM μ ν ce sl) (hcat : (st.map fun v => v.category).sum ≤ 8) (hhh : μ.2.2.2.2.2.2 = []) (kx : ∀ (C : String) (M' : HM) (n' : Nat), X' C M' n' → n ≤ n' → (∀ q, M' q ≠ none → AA M n q) → X C M' n') (k : ∀ (v : Option Value) (M' : HM) (n' : Nat), Q' v M' n' → n ≤ n' → (∀ q, M' q ≠ none → AA M n q) → G Γ μ A (EX Γ μ A Q X) (ce + ν.2.2.2.2.2.1.cells) (sl + ν.2.2.2.2.2.1.slots) M' n' (pc + 3) vs (v.toList ++ st)) : G Γ μ A (EX Γ μ A Q X) ce sl M n pc vs (x2 :: x1 :: .ref b :: st) := by
  intro p e s m args below meth c H locs ls CC h1 h2 h3 h4 h5
  obtain ⟨c1, c2, c3, c4, c5, c6, c7, c8, c9, c10, c11, c12, c13⟩ := id CC
  refine g_backX (a := (Value.ref b :: [x1, x2]).toArray) CC h2 h3 h4 h5 (vx_runV (As := [x1, x2]) (rest := st) ⟨c1, c2, c3, c4, c5⟩ hC (cwV 2 c5 (good_TB (fun w hw9 => ?_)) rfl rfl rfl ⟨rfl, hw.2.2.2⟩ hR.1) ⟨pc_blind, ?_, g_pre CC h1 h2 h3 h4⟩ rfl rfl h5.1 rfl (lv_room hcat) hd hR.2) (fun C M' q cell H1 locs1 a1 a2 a3 a4 a5 a6 a7 a8 a9 => g_out CC hhh (kx C M' H1.size a1 a2 a3) a4 a5 a6 a7 a8 a9 hR.2.1 hR.2.2) k
  · rcases List.mem_append.mp hw9 with h | h
    · simp only [List.mem_cons, List.not_mem_nil, or_false] at h
      rcases h with rfl | rfl | rfl | rfl
      · exact hw.1
      · exact hi
      · exact hs
      · exact hw.2.1
    · exact cw_in hw.2.2.1 w h
  · have h9 := va_recv c9 (h1.one hM) hc (q0 := 0) rfl
    rw [hrc] at h9
    exact h9
theorem g_callSX2 {index : Nat} {x1 x2 : Value} (hw : CW μ.1 index y ν 2) (hs : Cond.static y ∈ TB) (hC : CX Γ ν y [x1, x2] M n Q' X') (hd : decode μ.2.1 pc = .ok (.invokestatic index, 3)) (hR : RM μ ν ce sl) (hcat : (st.map fun v => v.category).sum ≤ 8) (hhh : μ.2.2.2.2.2.2 = []) (kx : ∀ (C : String) (M' : HM) (n' : Nat), X' C M' n' → n ≤ n' → (∀ q, M' q ≠ none → AA M n q) → X C M' n') (k : ∀ (v : Option Value) (M' : HM) (n' : Nat), Q' v M' n' → n ≤ n' → (∀ q, M' q ≠ none → AA M n q) → G Γ μ A (EX Γ μ A Q X) (ce + ν.2.2.2.2.2.1.cells) (sl + ν.2.2.2.2.2.1.slots) M' n' (pc + 3) vs (v.toList ++ st)) : G Γ μ A (EX Γ μ A Q X) ce sl M n pc vs (x2 :: x1 :: st) := by
  intro p e s m args below meth c H locs ls CC h1 h2 h3 h4 h5
  obtain ⟨c1, c2, c3, c4, c5, c6, c7, c8, c9, c10, c11, c12, c13⟩ := id CC
  exact g_backX (a := [x1, x2].toArray) CC h2 h3 h4 h5 (vx_runS (As := [x1, x2]) (rest := st) ⟨c1, c2, c3, c4, c5⟩ hC ⟨callB_of 2 c5 (good_TB (cw_in hw.2.2.1)) rfl rfl rfl (c5 _ hw.2.1) (c5 _ hw.1) hw.2.2.2 hR.1, c5 _ hs⟩ ⟨pc_blind, g_pre CC h1 h2 h3 h4⟩ rfl rfl h5.1 rfl (lv_room hcat) hd hR.2) (fun C M' q cell H1 locs1 a1 a2 a3 a4 a5 a6 a7 a8 a9 => g_out CC hhh (kx C M' H1.size a1 a2 a3) a4 a5 a6 a7 a8 a9 hR.2.1 hR.2.2) k
theorem g_callVC1 {index b ci : Nat} {fs : List Value} {r : vw_C} {x1 : Value} {x0 : Nat × Nat × Nat × Nat} {cn : String} (hw : CW μ.1 index y ν 1) (hi : Cond.instanceMethod y ∈ TB) (hs : Cond.selects y.cls y y ∈ TB) (hC : CX Γ ν y (.ref b :: [x1]) M n Q' X') (hd : decode μ.2.1 pc = .ok (.invokevirtual index, 3)) (hM : M b = some (.inr (ci, fs))) (hc : cls[ci]? = some r) (hrc : r.1 = y.cls) (hR : RM μ ν ce sl) (hcat : (st.map fun v => v.category).sum ≤ 8)
    (hhh : μ.2.2.2.2.2.2 = [x0]) (hcov : x0.1 ≤ pc ∧ pc < x0.2.1) (h0 : x0.2.2.2 ≠ 0) (hlk : Cond.classLink μ.1 x0.2.2.2 cn ∈ TB) (hXC : ∀ (C : String) (M' : HM) (n' : Nat), X' C M' n' → Cond.castable C cn ∈ NB)
    (kx : ∀ (C : String) (M' : HM) (n' q : Nat), X' C M' n' → n ≤ n' → (∀ q, M' q ≠ none → AA M n q) → G Γ μ A E (ce + ν.2.2.2.2.2.1.cells) (sl + ν.2.2.2.2.2.1.slots) M' n' x0.2.2.1 vs [.ref q])
    (k : ∀ (v : Option Value) (M' : HM) (n' : Nat), Q' v M' n' → n ≤ n' → (∀ q, M' q ≠ none → AA M n q) → G Γ μ A E (ce + ν.2.2.2.2.2.1.cells) (sl + ν.2.2.2.2.2.1.slots) M' n' (pc + 3) vs (v.toList ++ st)) : G Γ μ A E ce sl M n pc vs (x1 :: .ref b :: st) := by
  intro p e s m args below meth c H locs ls CC h1 h2 h3 h4 h5
  obtain ⟨c1, c2, c3, c4, c5, c6, c7, c8, c9, c10, c11, c12, c13⟩ := id CC
  refine g_backX (a := (Value.ref b :: [x1]).toArray) CC h2 h3 h4 h5 (vx_runV (As := [x1]) (rest := st) ⟨c1, c2, c3, c4, c5⟩ hC (cwV 1 c5 (good_TB (fun w hw9 => ?_)) rfl rfl rfl ⟨rfl, hw.2.2.2⟩ hR.1) ⟨pc_blind, ?_, g_pre CC h1 h2 h3 h4⟩ rfl rfl h5.1 rfl (lv_room hcat) hd hR.2) (fun C M' q cell H1 locs1 a1 a2 a3 a4 a5 a6 a7 a8 a9 => ?_) k
  · rcases List.mem_append.mp hw9 with h | h
    · simp only [List.mem_cons, List.not_mem_nil, or_false] at h
      rcases h with rfl | rfl | rfl | rfl
      · exact hw.1
      · exact hi
      · exact hs
      · exact hw.2.1
    · exact cw_in hw.2.2.1 w h
  · have h9 := va_recv c9 (h1.one hM) hc (q0 := 0) rfl
    rw [hrc] at h9
    exact h9
  · refine vx_catch (own := μ.1) (name := cn) (E := C) (ce := cell) c4 [] ⟨x0.1, x0.2.1, x0.2.2.1, x0.2.2.2⟩ [] (by rw [c13, hhh]; rfl) (fun z hz => nomatch hz) ?_ h0 (c5 _ hlk) (c11.nb (hXC C M' H1.size a1)) a7 a8 a9 (kx C M' H1.size q a1 a2 a3 p e s m args below meth c H1 locs1 ls CC a4 rfl a5 a6 h5)
    simp [covers, hcov.1, hcov.2]
theorem g_callVC2 {index b ci : Nat} {fs : List Value} {r : vw_C} {x1 x2 : Value} {x0 : Nat × Nat × Nat × Nat} {cn : String} (hw : CW μ.1 index y ν 2) (hi : Cond.instanceMethod y ∈ TB) (hs : Cond.selects y.cls y y ∈ TB) (hC : CX Γ ν y (.ref b :: [x1, x2]) M n Q' X') (hd : decode μ.2.1 pc = .ok (.invokevirtual index, 3)) (hM : M b = some (.inr (ci, fs))) (hc : cls[ci]? = some r) (hrc : r.1 = y.cls) (hR : RM μ ν ce sl) (hcat : (st.map fun v => v.category).sum ≤ 8)
    (hhh : μ.2.2.2.2.2.2 = [x0]) (hcov : x0.1 ≤ pc ∧ pc < x0.2.1) (h0 : x0.2.2.2 ≠ 0) (hlk : Cond.classLink μ.1 x0.2.2.2 cn ∈ TB) (hXC : ∀ (C : String) (M' : HM) (n' : Nat), X' C M' n' → Cond.castable C cn ∈ NB)
    (kx : ∀ (C : String) (M' : HM) (n' q : Nat), X' C M' n' → n ≤ n' → (∀ q, M' q ≠ none → AA M n q) → G Γ μ A E (ce + ν.2.2.2.2.2.1.cells) (sl + ν.2.2.2.2.2.1.slots) M' n' x0.2.2.1 vs [.ref q])
    (k : ∀ (v : Option Value) (M' : HM) (n' : Nat), Q' v M' n' → n ≤ n' → (∀ q, M' q ≠ none → AA M n q) → G Γ μ A E (ce + ν.2.2.2.2.2.1.cells) (sl + ν.2.2.2.2.2.1.slots) M' n' (pc + 3) vs (v.toList ++ st)) : G Γ μ A E ce sl M n pc vs (x2 :: x1 :: .ref b :: st) := by
  intro p e s m args below meth c H locs ls CC h1 h2 h3 h4 h5
  obtain ⟨c1, c2, c3, c4, c5, c6, c7, c8, c9, c10, c11, c12, c13⟩ := id CC
  refine g_backX (a := (Value.ref b :: [x1, x2]).toArray) CC h2 h3 h4 h5 (vx_runV (As := [x1, x2]) (rest := st) ⟨c1, c2, c3, c4, c5⟩ hC (cwV 2 c5 (good_TB (fun w hw9 => ?_)) rfl rfl rfl ⟨rfl, hw.2.2.2⟩ hR.1) ⟨pc_blind, ?_, g_pre CC h1 h2 h3 h4⟩ rfl rfl h5.1 rfl (lv_room hcat) hd hR.2) (fun C M' q cell H1 locs1 a1 a2 a3 a4 a5 a6 a7 a8 a9 => ?_) k
  · rcases List.mem_append.mp hw9 with h | h
    · simp only [List.mem_cons, List.not_mem_nil, or_false] at h
      rcases h with rfl | rfl | rfl | rfl
      · exact hw.1
      · exact hi
      · exact hs
      · exact hw.2.1
    · exact cw_in hw.2.2.1 w h
  · have h9 := va_recv c9 (h1.one hM) hc (q0 := 0) rfl
    rw [hrc] at h9
    exact h9
  · refine vx_catch (own := μ.1) (name := cn) (E := C) (ce := cell) c4 [] ⟨x0.1, x0.2.1, x0.2.2.1, x0.2.2.2⟩ [] (by rw [c13, hhh]; rfl) (fun z hz => nomatch hz) ?_ h0 (c5 _ hlk) (c11.nb (hXC C M' H1.size a1)) a7 a8 a9 (kx C M' H1.size q a1 a2 a3 p e s m args below meth c H1 locs1 ls CC a4 rfl a5 a6 h5)
    simp [covers, hcov.1, hcov.2]
/-- throw new E("text") -/
theorem g_throw {ik is ic lit : Nat} {C text : String} {names : List String} (hk : Cond.classLink μ.1 ik C ∈ TB) (hini : Cond.initialized C ∈ TB) (hcls : Bundle.fit C = true) (hnames : ∀ n ∈ names, Bundle.fit n = true) (hlit : (μ.1, is, text, lit) ∈ litL) (hat : ∀ w ∈ vx_atS μ.1 ic C names, w ∈ TB ∨ w ∈ NB) (hgood : ∀ w ∈ Cond.classLink μ.1 ik C :: Cond.initialized C :: vx_atS μ.1 ic C names, vx_ot w = true)
    (d0 : decode μ.2.1 pc = .ok (.new ik, 3)) (d3 : decode μ.2.1 (pc + 3) = .ok (.dup, 1)) (d4 : decode μ.2.1 (pc + 4) = .ok (.ldc is, 2)) (d6 : decode μ.2.1 (pc + 6) = .ok (.invokespecial ic, 3)) (d9 : decode μ.2.1 (pc + 9) = .ok (.athrow, 1)) (hhh : μ.2.2.2.2.2.2 = [])
    (hf : names.length + 3 < μ.2.2.2.2.2.1.frames) (hlo : (st.map fun v => v.category).sum + (13 * (names.length + 1) + 43) ≤ μ.2.2.2.2.2.1.locals) (hce : ce + 1 ≤ μ.2.2.2.2.2.1.cells) (hsl : sl + 6 ≤ μ.2.2.2.2.2.1.slots) (hx : ∀ n', n ≤ n' → X C M n') : G Γ μ A (EX Γ μ A Q X) ce sl M n pc vs st := by
  intro p e s m args below meth c H locs ls CC h1 h2 h3 h4 h5
  obtain ⟨c1, c2, c3, c4, c5, c6, c7, c8, c9, c10, c11, c12, c13⟩ := id CC
  subst h2
  refine vx_throwS c1 c2 c12 c4 hcls hnames (c5 _ hk) (c5 _ hini) (c11.2.1 _ hlit) (fun w hw => (hat w hw).elim (c5 w) (fun h => c11.nb h)) hgood c11.2.2.2.1 c11.2.2.2.2.1 h4 (by rw [c3]; exact h5.1) d0 d3 d4 d6 d9 (fun x hx9 => by rw [c13, hhh] at hx9; exact nomatch hx9) hf hlo hce hsl c7 (fun t ht g1 g2 => ?_) h4.2.2 hce hsl
  refine ⟨⟨M, fun a e9 ha => (h1 a e9 ha).kept (g2 a ((h1 a e9 ha).lt)), h3, hx _ g1⟩, Nat.le_trans h4.1 g1, fun q q1 q2 => (g2 q (Nat.lt_of_lt_of_le q1 h4.1)).trans (h4.2.1 q q1 q2)⟩
theorem g_ldcS {is lit : Nat} {text : String} (hlit : (μ.1, is, text, lit) ∈ litL) (hd : decode μ.2.1 pc = .ok (.ldc is, 2)) (k : G Γ μ A E ce sl M n (pc + 2) vs (.ref (Γ.2.2.2.1 lit) :: st)) : G Γ μ A E ce sl M n pc vs st := by
  intro p e s m args below meth c H locs ls CC h1 h2 h3 h4 h5
  obtain ⟨c1, c2, c3, c4, c5, c6, c7, c8, c9, c10, c11, c12, c13⟩ := id CC
  exact va_ldcS c1 c2 c4 (c11.2.1 _ hlit) hd (k p e s m args below meth c H locs ls CC h1 h2 h3 h4 h5)
theorem g_ldcI {is : Nat} {v : Int32} {z : Int} (hw : Cond.constant μ.1 is v ∈ TB) (hz : v = iI z) (hd : decode μ.2.1 pc = .ok (.ldc is, 2)) (k : G Γ μ A E ce sl M n (pc + 2) vs (.int (iI z) :: st)) : G Γ μ A E ce sl M n pc vs st := by
  intro p e s m args below meth c H locs ls CC h1 h2 h3 h4 h5
  obtain ⟨c1, c2, c3, c4, c5, c6, c7, c8, c9, c10, c11, c12, c13⟩ := id CC
  subst hz
  exact lv_ldc c1 c2 c4 (c5 _ hw) hd (k p e s m args below meth c H locs ls CC h1 h2 h3 h4 h5)
theorem g_ldcL {is : Nat} {v : Int64} (hw : Cond.constantLong μ.1 is v ∈ TB) (hd : decode μ.2.1 pc = .ok (.ldc2_w is, 3)) (k : G Γ μ A E ce sl M n (pc + 3) vs (.long v :: st)) : G Γ μ A E ce sl M n pc vs st := by
  intro p e s m args below meth c H locs ls CC h1 h2 h3 h4 h5
  obtain ⟨c1, c2, c3, c4, c5, c6, c7, c8, c9, c10, c11, c12, c13⟩ := id CC
  exact lv_ldc2 c1 c2 c4 (c5 _ hw) hd (k p e s m args below meth c H locs ls CC h1 h2 h3 h4 h5)
theorem g_lconst {i : Fin 2} {v : Int64} (hd : decode μ.2.1 pc = .ok (.lconst i, 1)) (hv : Int64.ofNat (i : Nat) = v) (k : G Γ μ A E ce sl M n (pc + 1) vs (.long v :: st)) : G Γ μ A E ce sl M n pc vs st := by
  intro p e s m args below meth c H locs ls CC h1 h2 h3 h4 h5
  obtain ⟨c1, c2, c3, c4, c5, c6, c7, c8, c9, c10, c11, c12, c13⟩ := id CC
  exact lv_lconst c1 c2 hd hv (k p e s m args below meth c H locs ls CC h1 h2 h3 h4 h5)
/-- a literal's own fields -/
theorem g_litValue {index i : Nat} (hi : i < nLit) (hl : Cond.fieldLink μ.1 index "java/lang/String" "value" "[B" ∈ TB) (hd : decode μ.2.1 pc = .ok (.getfield index, 3)) (k : G Γ μ A E ce sl M n (pc + 3) vs (.ref (Γ.2.2.2.2 i) :: st)) : G Γ μ A E ce sl M n pc vs (.ref (Γ.2.2.2.1 i) :: st) := by
  intro p e s m args below meth c H locs ls CC h1 h2 h3 h4 h5
  obtain ⟨c1, c2, c3, c4, c5, c6, c7, c8, c9, c10, c11, c12, c13⟩ := id CC
  exact vk_getf c1 c2 (c11.1.1 i hi).2.2.1 h4 c4 (c5 _ hl) (fun _ h => h) hd (k p e s m args below meth c H locs ls CC h1 h2 h3 h4 h5)
theorem g_litCoder {index i : Nat} (hi : i < nLit) (hl : Cond.fieldLink μ.1 index "java/lang/String" "coder" "B" ∈ TB) (hd : decode μ.2.1 pc = .ok (.getfield index, 3)) (k : G Γ μ A E ce sl M n (pc + 3) vs (.int (iI 0) :: st)) : G Γ μ A E ce sl M n pc vs (.ref (Γ.2.2.2.1 i) :: st) := by
  intro p e s m args below meth c H locs ls CC h1 h2 h3 h4 h5
  obtain ⟨c1, c2, c3, c4, c5, c6, c7, c8, c9, c10, c11, c12, c13⟩ := id CC
  exact vk_getf c1 c2 (c11.1.1 i hi).2.1 h4 c4 (c5 _ hl) (fun _ h => h) hd (k p e s m args below meth c H locs ls CC h1 h2 h3 h4 h5)
theorem g_litLen {i : Nat} (hi : i < nLit) (hd : decode μ.2.1 pc = .ok (.arraylength, 1)) (k : G Γ μ A E ce sl M n (pc + 1) vs (.int (iI (lenLit.getD i 0 : Nat)) :: st)) : G Γ μ A E ce sl M n pc vs (.ref (Γ.2.2.2.2 i) :: st) := by
  intro p e s m args below meth c H locs ls CC h1 h2 h3 h4 h5
  obtain ⟨c1, c2, c3, c4, c5, c6, c7, c8, c9, c10, c11, c12, c13⟩ := id CC
  exact va_tlen c1 c2 (c11.1.1 i hi).2.2.2 h4 (iI_nI _) hd (k p e s m args below meth c H locs ls CC h1 h2 h3 h4 h5)
theorem g_litAt {i : Nat} {j z : Int} (hi : i < nLit) (hd : decode μ.2.1 pc = .ok (.baload, 1)) (j1 : 0 ≤ j) (j2 : j < (lenLit.getD i 0 : Nat)) (j3 : (lenLit.getD i 0 : Nat) < 2147483648) (hz : (bytLit.getD i []).getD j.toNat 0 = iI z) (k : G Γ μ A E ce sl M n (pc + 1) vs (.int (iI z) :: st)) : G Γ μ A E ce sl M n pc vs (.int (iI j) :: .ref (Γ.2.2.2.2 i) :: st) := by
  intro p e s m args below meth c H locs ls CC h1 h2 h3 h4 h5
  obtain ⟨c1, c2, c3, c4, c5, c6, c7, c8, c9, c10, c11, c12, c13⟩ := id CC
  exact va_tb c1 c2 (c11.1.1 i hi).2.2.2 h4 (iI_in j1 j2 j3) (v := .int (iI z)) (by rw [iI_clamp j1 (by omega), hz]) hd (k p e s m args below meth c H locs ls CC h1 h2 h3 h4 h5)
theorem g_siob {index : Nat} (hl : Cond.fieldLink μ.1 index "jdk/internal/util/Preconditions" "SIOOBE_FORMATTER" "Ljava/util/function/BiFunction;" ∈ TB) (hd : decode μ.2.1 pc = .ok (.getstatic index, 3)) (kn : G Γ μ A E ce sl M n (pc + 3) vs (.null :: st)) (kr : ∀ q : Nat, G Γ μ A E ce sl M n (pc + 3) vs (.ref q :: st)) : G Γ μ A E ce sl M n pc vs st := by
  intro p e s m args below meth c H locs ls CC h1 h2 h3 h4 h5
  obtain ⟨c1, c2, c3, c4, c5, c6, c7, c8, c9, c10, c11, c12, c13⟩ := id CC
  rcases c11.2.2.2.2.2.2 with hr | ⟨q, hr⟩
  · exact va_gets (v := .null) c1 c2 hr h4 c4 (c5 _ hl) (fun _ h => h) hd (kn p e s m args below meth c H locs ls CC h1 h2 h3 h4 h5)
  · exact va_gets (v := .ref q) c1 c2 hr h4 c4 (c5 _ hl) (fun _ h => h) hd (kr q p e s m args below meth c H locs ls CC h1 h2 h3 h4 h5)
theorem g_compact {index : Nat} (hl : Cond.fieldLink μ.1 index "java/lang/String" "COMPACT_STRINGS" "Z" ∈ TB) (hd : decode μ.2.1 pc = .ok (.getstatic index, 3)) (k : G Γ μ A E ce sl M n (pc + 3) vs (.int (iI 1) :: st)) : G Γ μ A E ce sl M n pc vs st := by
  intro p e s m args below meth c H locs ls CC h1 h2 h3 h4 h5
  obtain ⟨c1, c2, c3, c4, c5, c6, c7, c8, c9, c10, c11, c12, c13⟩ := id CC
  exact va_gets c1 c2 c11.2.2.1 h4 c4 (c5 _ hl) (fun _ h => h) hd (k p e s m args below meth c H locs ls CC h1 h2 h3 h4 h5)
theorem g_callL0 {index i : Nat} (hi0 : i < nLit) (hw : CW μ.1 index y ν 0) (hi : Cond.instanceMethod y ∈ TB) (hs : Cond.selects y.cls y y ∈ TB) (hyc : y.cls = "java/lang/String") (hC : CT Γ ν y (.ref (Γ.2.2.2.1 i) :: []) M n Q') (hd : decode μ.2.1 pc = .ok (.invokevirtual index, 3)) (hR : RM μ ν ce sl) (hcat : (st.map fun v => v.category).sum ≤ 8) (k : ∀ (v : Option Value) (M' : HM) (n' : Nat), Q' v M' n' → n ≤ n' → (∀ q, M' q ≠ none → AA M n q) → G Γ μ A E (ce + ν.2.2.2.2.2.1.cells) (sl + ν.2.2.2.2.2.1.slots) M' n' (pc + 3) vs (v.toList ++ st)) : G Γ μ A E ce sl M n pc vs (.ref (Γ.2.2.2.1 i) :: st) := by
  intro p e s m args below meth c H locs ls CC h1 h2 h3 h4 h5
  obtain ⟨c1, c2, c3, c4, c5, c6, c7, c8, c9, c10, c11, c12, c13⟩ := id CC
  refine g_back (a := (Value.ref (Γ.2.2.2.1 i) :: []).toArray) CC h2 h3 h4 h5 (va_runV (As := []) (rest := st) ⟨c1, c2, c3, c4, c5⟩ hC (cwV 0 c5 (good_TB (fun w hw9 => ?_)) rfl rfl rfl ⟨rfl, hw.2.2.2⟩ hR.1) ⟨pc_blind, ?_, g_pre CC h1 h2 h3 h4⟩ rfl rfl h5.1 rfl (lv_room hcat) hd hR.2) k
  · rcases List.mem_append.mp hw9 with h | h
    · simp only [List.mem_cons, List.not_mem_nil, or_false] at h
      rcases h with rfl | rfl | rfl | rfl
      · exact hw.1
      · exact hi
      · exact hs
      · exact hw.2.1
    · exact cw_in hw.2.2.1 w h
  · have h9 := vk_recv c11.1 hi0 h4
    rw [← hyc] at h9
    exact h9
theorem g_callL1 {index i : Nat} {x1 : Value} (hi0 : i < nLit) (hw : CW μ.1 index y ν 1) (hi : Cond.instanceMethod y ∈ TB) (hs : Cond.selects y.cls y y ∈ TB) (hyc : y.cls = "java/lang/String") (hC : CT Γ ν y (.ref (Γ.2.2.2.1 i) :: [x1]) M n Q') (hd : decode μ.2.1 pc = .ok (.invokevirtual index, 3)) (hR : RM μ ν ce sl) (hcat : (st.map fun v => v.category).sum ≤ 8) (k : ∀ (v : Option Value) (M' : HM) (n' : Nat), Q' v M' n' → n ≤ n' → (∀ q, M' q ≠ none → AA M n q) → G Γ μ A E (ce + ν.2.2.2.2.2.1.cells) (sl + ν.2.2.2.2.2.1.slots) M' n' (pc + 3) vs (v.toList ++ st)) : G Γ μ A E ce sl M n pc vs (x1 :: .ref (Γ.2.2.2.1 i) :: st) := by
  intro p e s m args below meth c H locs ls CC h1 h2 h3 h4 h5
  obtain ⟨c1, c2, c3, c4, c5, c6, c7, c8, c9, c10, c11, c12, c13⟩ := id CC
  refine g_back (a := (Value.ref (Γ.2.2.2.1 i) :: [x1]).toArray) CC h2 h3 h4 h5 (va_runV (As := [x1]) (rest := st) ⟨c1, c2, c3, c4, c5⟩ hC (cwV 1 c5 (good_TB (fun w hw9 => ?_)) rfl rfl rfl ⟨rfl, hw.2.2.2⟩ hR.1) ⟨pc_blind, ?_, g_pre CC h1 h2 h3 h4⟩ rfl rfl h5.1 rfl (lv_room hcat) hd hR.2) k
  · rcases List.mem_append.mp hw9 with h | h
    · simp only [List.mem_cons, List.not_mem_nil, or_false] at h
      rcases h with rfl | rfl | rfl | rfl
      · exact hw.1
      · exact hi
      · exact hs
      · exact hw.2.1
    · exact cw_in hw.2.2.1 w h
  · have h9 := vk_recv c11.1 hi0 h4
    rw [← hyc] at h9
    exact h9
end CR
