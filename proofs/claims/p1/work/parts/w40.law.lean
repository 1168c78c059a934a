/-! ===== methods with a table of handlers; the law's own rows ===== -/
def R_law : String := "VaryStoreLaw"
def lw_P (b : Addr) (xs : List Int32) (args : Array Value) (s : State) : Prop := args = #[.ref b] ∧ s.IntsAt b xs ∧ xs.length ≤ 4 ∧ (Jvm.Cond.and given_1 narrow_1).before args s = true
def lw_Q (_ : Array Value) (s : State) (o : Outcome) (t : State) : Prop := o = .returned (some (.int 1)) ∧ Framed s o t [] 600002 7302232
def lw_Z (below : List Frame) (a : Array Value) (s : State) : State → Prop := fun t => ∃ o, t.status = .running ∧ Ended t below o ∧ lw_Q a s o t
/-- the law's own end, with 1 on the stack, nothing written that was there before, its room as the claim has it -/
theorem lw_ret {p : Program} {l : Launch} {e : Env} {s : State} {m : MethodId} {below : List Frame} {meth : Method} {c : Code} {b : Nat} (hx : p.tables.exec = Jvm.exec) (hb : c.code = code) (hr : meth.sig.returnType = ret) (hlocks : meth.locks = false) {pc : Nat} {H : Heap} {ls : Array Slot} (hdg : decode code pc = .ok (.ireturn, 1)) : W p l e room_1 s m #[Value.ref b] below meth c H [] 600002 7302232 (lw_Z below #[Value.ref b] s) (F0 m pc ls [.int 1]) := by
  intro T hT X
  obtain ⟨fs, hret, hrun, hended, hW, hframe⟩ := X.leave (v := some (.int 1)) (hlocks := hlocks) (fun h => by rw [hr] at h; cases h)
  have hmeth' : T.vm.method? m = some meth := X.method'
  refine ⟨T.setFrames fs, ?_, .returned (some (.int 1)), hrun, hended, rfl, ⟨_, rfl⟩, hW, hframe⟩
  jvm_step X.here [X.here.top, hx, hb, hdg, hmeth', hr, ret, narrow_b1]
  (try refine ⟨rfl, ?_⟩); (try refine ⟨rfl, ?_⟩)
  first | (intro acts; rw [hret _ acts rfl rfl rfl]) | rw [hret _ _ rfl rfl rfl]
  exact Steps.refl _
abbrev b_law : ByteArray := code
def k_law : MS := ("VaryStoreLaw", b_law, 7, ret, "law", room_1, [])
def CTW (Γ : GE) (μ : MS) (y : MethodName) (av : List Value) (M : HM) (n : Nat) (Q : Option Value → HM → Nat → Prop) : Prop :=
  Met Γ.1 y (Cond.codeWith y μ.2.1 μ.2.2.1 μ.2.2.2.1 μ.2.2.2.2.2.2 :: TB) μ.2.2.2.2.2.1 (PC Γ av M n) (QC Γ (AA M n) Q) μ.2.2.2.2.2.1.cells μ.2.2.2.2.2.1.slots (AA M n)
theorem CTW.of {Γ : GE} {μ : MS} {y : MethodName} {av : List Value} {M : HM} {n : Nat} {Q : Option Value → HM → Nat → Prop} {vs : List (Option Value)} (hy : plainName y.cls = true) (hown : y.cls = μ.1) (hnm : y.name = μ.2.2.2.2.1) (k : Nat) (hvs : lvE av ++ List.replicate k none = vs) (hlen : (lg_sl av).length ≤ μ.2.2.1)
    (h : G Γ μ (AA M n) (EM Γ μ (AA M n) Q) 0 0 M n 0 vs []) : CTW Γ μ y av M n Q := by
  refine va_MetW (cc := μ.2.1) (maxL := μ.2.2.1) (ret := μ.2.2.2.1) (hh := μ.2.2.2.2.2.2) hy rfl ?_
  intro p e s m args below meth c s₁ B hml hv
  obtain ⟨rfl, h1, h2, h3, h4, h5⟩ := hv
  have hts := atoms_spec (ws := Cond.codeWith y μ.2.1 μ.2.2.1 μ.2.2.2.1 μ.2.2.2.2.2.2 :: TB) B.pre
  have hown' : s.vm.findClass y.cls = some m.cls := findClass_of_methodNamed B.named
  have hin : meth.name = y.name := (name_of_methodNamed B.named B.method).1
  have htab : c.exceptionTable.toList = tableOf μ.2.2.2.2.2.2 := vx_table (x := y) B (hts _ List.mem_cons_self)
  have hl := lv_entry av (n := μ.2.2.1) hlen
  rw [lg_entry_eq]
  rw [← hvs] at h
  exact h p e s m _ below meth c s.heap [] _ ⟨B.exec, B.bytes, hml, by rw [← hown]; exact hown', fun w hw => hts w (List.mem_cons_of_mem _ hw), B.returns, B.notSynchronized, hin.trans hnm, h3, fun q hq => Or.inr (by omega), h4, h5, htab⟩ h1 h2 (fun q hq => Or.inl hq) va_S.rf (LV.entry hl)
/-- the words of a static call of a method with handlers -/
def CWW (own : String) (index : Nat) (y : MethodName) (ν : MS) (na : Nat) : Prop := Cond.methodLink own index y ∈ TB ∧ Cond.initialized y.cls ∈ TB ∧ Cond.codeWith y ν.2.1 ν.2.2.1 ν.2.2.2.1 ν.2.2.2.2.2.2 ∈ TB ∧ (y.cls ≠ "java/lang/invoke/MethodHandle" ∧ y.cls ≠ "java/lang/invoke/VarHandle" ∧ (parseMethodDescriptor y.desc).map (fun d => d.parameters.length) = some na)
section LR
variable {Γ : GE} {μ ν : MS} {A : Nat → Prop} {E : List Frame → Array Value → State → State → Prop} {ce sl : Nat} {M : HM} {n pc : Nat} {vs : List (Option Value)} {st : List Value} {Q' : Option Value → HM → Nat → Prop} {y : MethodName}
theorem g_callSW3 {index : Nat} {x1 x2 x3 : Value} (hw : CWW μ.1 index y ν 3) (hs : Cond.static y ∈ TB) (hC : CTW Γ ν y [x1, x2, x3] M n Q') (hd : decode μ.2.1 pc = .ok (.invokestatic index, 3)) (hR : RM μ ν ce sl) (hcat : (st.map fun v => v.category).sum ≤ 8) (k : ∀ (v : Option Value) (M' : HM) (n' : Nat), Q' v M' n' → n ≤ n' → (∀ q, M' q ≠ none → AA M n q) → G Γ μ A E (ce + ν.2.2.2.2.2.1.cells) (sl + ν.2.2.2.2.2.1.slots) M' n' (pc + 3) vs (v.toList ++ st)) : G Γ μ A E ce sl M n pc vs (x3 :: x2 :: x1 :: st) := by
  intro p e s m args below meth c H locs ls CC h1 h2 h3 h4 h5
  obtain ⟨c1, c2, c3, c4, c5, c6, c7, c8, c9, c10, c11, c12, c13⟩ := id CC
  refine g_back (a := [x1, x2, x3].toArray) CC h2 h3 h4 h5 (vx_runSW (As := [x1, x2, x3]) (rest := st) ⟨c1, c2, c3, c4, c5⟩ hC (vx_cwSW 3 c5 (good_TB (fun w hw9 => ?_)) rfl rfl rfl hw.2.2.2 hR.1) ⟨pc_blind, g_pre CC h1 h2 h3 h4⟩ rfl rfl h5.1 rfl (lv_room hcat) hd hR.2) k
  rcases List.mem_append.mp hw9 with h | h
  · simp only [List.mem_cons, List.not_mem_nil, or_false] at h
    rcases h with rfl | rfl | rfl
    · exact hw.1
    · exact hs
    · exact hw.2.1
  · rcases List.mem_cons.mp h with h | h
    · rw [h]; exact hw.2.2.1
    · exact h
theorem g_callSW4 {index : Nat} {x1 x2 x3 x4 : Value} (hw : CWW μ.1 index y ν 4) (hs : Cond.static y ∈ TB) (hC : CTW Γ ν y [x1, x2, x3, x4] M n Q') (hd : decode μ.2.1 pc = .ok (.invokestatic index, 3)) (hR : RM μ ν ce sl) (hcat : (st.map fun v => v.category).sum ≤ 8) (k : ∀ (v : Option Value) (M' : HM) (n' : Nat), Q' v M' n' → n ≤ n' → (∀ q, M' q ≠ none → AA M n q) → G Γ μ A E (ce + ν.2.2.2.2.2.1.cells) (sl + ν.2.2.2.2.2.1.slots) M' n' (pc + 3) vs (v.toList ++ st)) : G Γ μ A E ce sl M n pc vs (x4 :: x3 :: x2 :: x1 :: st) := by
  intro p e s m args below meth c H locs ls CC h1 h2 h3 h4 h5
  obtain ⟨c1, c2, c3, c4, c5, c6, c7, c8, c9, c10, c11, c12, c13⟩ := id CC
  refine g_back (a := [x1, x2, x3, x4].toArray) CC h2 h3 h4 h5 (vx_runSW (As := [x1, x2, x3, x4]) (rest := st) ⟨c1, c2, c3, c4, c5⟩ hC (vx_cwSW 4 c5 (good_TB (fun w hw9 => ?_)) rfl rfl rfl hw.2.2.2 hR.1) ⟨pc_blind, g_pre CC h1 h2 h3 h4⟩ rfl rfl h5.1 rfl (lv_room hcat) hd hR.2) k
  rcases List.mem_append.mp hw9 with h | h
  · simp only [List.mem_cons, List.not_mem_nil, or_false] at h
    rcases h with rfl | rfl | rfl
    · exact hw.1
    · exact hs
    · exact hw.2.1
  · rcases List.mem_cons.mp h with h | h
    · rw [h]; exact hw.2.2.1
    · exact h
theorem g_tableIn {dflt lo hi : Int} {offs : Array Int} {len : Nat} {z off : Int} {tgt : Nat} (hd : decode μ.2.1 pc = .ok (.tableswitch dflt lo hi offs, len)) (z1 : -2147483648 ≤ z) (z2 : z < 2147483648) (h1 : lo ≤ z) (h2 : z ≤ hi) (ho : offs[(z - lo).toNat]? = some off) (ht : (pc : Int) + off = (tgt : Int)) (k : G Γ μ A E ce sl M n tgt vs st) : G Γ μ A E ce sl M n pc vs (.int (iI z) :: st) := by
  intro p e s m args below meth c H locs ls CC h1' h2' h3 h4 h5
  have e9 := iI_toInt z1 z2
  exact lv_tableIn CC.1 CC.2.1 hd (by rw [e9]; omega) (by rw [e9]; omega) (by rw [e9]; exact ho) ht (k p e s m args below meth c H locs ls CC h1' h2' h3 h4 h5)
theorem g_tableOut {dflt lo hi : Int} {offs : Array Int} {len : Nat} {z : Int} {tgt : Nat} (hd : decode μ.2.1 pc = .ok (.tableswitch dflt lo hi offs, len)) (z1 : -2147483648 ≤ z) (z2 : z < 2147483648) (h : z < lo ∨ hi < z) (ht : (pc : Int) + dflt = (tgt : Int)) (k : G Γ μ A E ce sl M n tgt vs st) : G Γ μ A E ce sl M n pc vs (.int (iI z) :: st) := by
  intro p e s m args below meth c H locs ls CC h1' h2' h3 h4 h5
  have e9 := iI_toInt z1 z2
  exact lv_tableOut CC.1 CC.2.1 hd (by rw [e9]; exact h) ht (k p e s m args below meth c H locs ls CC h1' h2' h3 h4 h5)
theorem g_lcmpE {x : Int64} (hd : decode μ.2.1 pc = .ok (.lcmp, 1)) (k : G Γ μ A E ce sl M n (pc + 1) vs (.int (iI 0) :: st)) : G Γ μ A E ce sl M n pc vs (.long x :: .long x :: st) := by
  intro p e s m args below meth c H locs ls CC h1 h2 h3 h4 h5
  refine W.lcmp CC.1 CC.2.1 hd ?_
  have e9 : lg_cmp x x = iI 0 := by
    unfold lg_cmp
    split
    · rename_i h; exact absurd h (by rw [gt_iff_lt]; exact Int64.lt_irrefl)
    · split
      · rfl
      · rename_i h; exact absurd rfl h
  rw [e9]
  exact k p e s m args below meth c H locs ls CC h1 h2 h3 h4 h5
/-- what the law's walk knows of its start -/
def lwP (b L n : Nat) (xs : Nat → Int32) (args : Array Value) (s : State) : Prop := args = #[Value.ref b] ∧ va_X b L xs s s.heap ∧ b < s.heap.size ∧ n = s.heap.size
def lwE (b L n : Nat) (xs : Nat → Int32) : List Frame → Array Value → State → State → Prop := fun below args s t => lwP b L n xs args s → lw_Z below args s t
def lwA (n : Nat) : Nat → Prop := fun q => n ≤ q
theorem g_slen {b L n0 : Nat} {xs : Nat → Int32} (hd : decode μ.2.1 pc = .ok (.arraylength, 1)) (k : G Γ μ (lwA n0) (lwE b L n0 xs) ce sl M n (pc + 1) vs (.int (iI (L : Nat)) :: st)) : G Γ μ (lwA n0) (lwE b L n0 xs) ce sl M n pc vs (.ref b :: st) := by
  intro p e s m args below meth c H locs ls CC h1 h2 h3 h4 h5
  intro T hT X
  by_cases hP : lwP b L n0 xs args s
  · obtain ⟨ha, hX, hb, hn⟩ := id hP
    refine va_slen CC.1 CC.2.1 hX hb (fun h => absurd (show n0 ≤ b from h) (by omega)) h4 hd ?_ T hT X
    rw [show Int32.ofNat L = iI (L : Nat) from iI_nI L]
    exact k p e s m args below meth c H locs ls CC h1 h2 h3 h4 h5
  · exact ⟨_, Steps.refl _, fun h => absurd h hP⟩
theorem g_sld {b L n0 : Nat} {xs : Nat → Int32} {i z : Int} (hd : decode μ.2.1 pc = .ok (.iaload, 1)) (i1 : 0 ≤ i) (i2 : i < (L : Nat)) (hL : L < 2147483648) (hz : xs i.toNat = iI z) (k : G Γ μ (lwA n0) (lwE b L n0 xs) ce sl M n (pc + 1) vs (.int (iI z) :: st)) : G Γ μ (lwA n0) (lwE b L n0 xs) ce sl M n pc vs (.int (iI i) :: .ref b :: st) := by
  intro p e s m args below meth c H locs ls CC h1 h2 h3 h4 h5
  intro T hT X
  by_cases hP : lwP b L n0 xs args s
  · obtain ⟨ha, hX, hb, hn⟩ := id hP
    refine va_sld CC.1 CC.2.1 hX hb (fun h => absurd (show n0 ≤ b from h) (by omega)) h4 (iI_in i1 i2 hL) hd ?_ T hT X
    rw [iI_clamp i1 (by omega), hz]
    exact k p e s m args below meth c H locs ls CC h1 h2 h3 h4 h5
  · exact ⟨_, Steps.refl _, fun h => absurd h hP⟩
end LR
theorem g_lend {Γ : GE} {ce sl : Nat} {M : HM} {n pc : Nat} {vs : List (Option Value)} {b L n0 : Nat} {xs : Nat → Int32} (hd : decode b_law pc = .ok (.ireturn, 1)) (hce : ce ≤ room_1.cells) (hsl : sl ≤ room_1.slots) : G Γ k_law (lwA n0) (lwE b L n0 xs) ce sl M n pc vs [.int (iI 1)] := by
  intro p e s m args below meth c H locs ls CC h1 h2 h3 h4 h5
  intro T hT X
  by_cases hP : lwP b L n0 xs args s
  · obtain ⟨ha, hX, hb, hn⟩ := id hP
    subst ha
    have W1 : W p Γ.1 e room_1 s m #[Value.ref b] below meth c H locs ce sl (lw_Z below #[Value.ref b] s) (F0 m pc ls [.int 1]) := W.widen hce hsl (va_forget (fun q hq => by have h9 : n0 ≤ q.base := h4.2.2 q hq; omega) (lw_ret (b := b) (l := Γ.1) (e := e) (below := below) (H := H) (ls := ls) CC.1 CC.2.1 CC.2.2.2.2.2.1 CC.2.2.2.2.2.2.1 hd))
    obtain ⟨t, a1, b1⟩ := W1 T hT X
    exact ⟨t, a1, fun _ => b1⟩
  · exact ⟨_, Steps.refl _, fun h => absurd h hP⟩
theorem and15 (x : Int32) : ∃ j : Nat, j < 16 ∧ x &&& iI 15 = iI (j : Nat) := by
  obtain ⟨j, h1, h2⟩ := pk_andE x (m := iI 15) 4 (by decide)
  exact ⟨j, h1, by rw [h2, iI_nI]⟩
theorem i32_Z (x : Int32) : ∃ z : Int, -2147483648 ≤ z ∧ z < 2147483648 ∧ x = iI z := ⟨x.toInt, by have h := Int32.le_toInt x; simpa using h, by have h := Int32.toInt_lt x; simpa using h, (iI_of x).symm⟩
