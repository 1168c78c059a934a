/-! ===== a method's walk over the map of the heap ===== -/
/-- launch, numbers of classes and slots, classes of arrays, addresses of the literals and of their bytes -/
abbrev GE : Type := Launch × va_G × (Nat → ClassId) × (Nat → Nat) × (Nat → Nat)
/-- a method: its class, its bytes, its locals, its answer's type, its name, its room, its handlers -/
abbrev MS : Type := String × ByteArray × Nat × Option FieldType × String × Room × List (Nat × Nat × Nat × Nat)
/-- classes of arrays -/
def tyL (dA : Nat → ClassId) : List (ClassId × FieldType) := [(dA 0, .char), (dA 1, .int), (dA 2, .object "VaryStore$Thing"), (dA 3, .long), (dA 4, .object "VaryStoreModel$Thing"), (dA 5, .array .int)]
/-- words of the tables that ride by laws of their own -/
def isNB : Cond → Bool
  | .fieldLinkNest .. => true
  | .methodLinkNest .. => true
  | .castable .. => true
  | .declares _ => true
  | .arrayOver (.object _) => true
  | .arrayOver (.array _) => true
  | _ => false
def NB : List Cond := lw_tbl.filter isNB
theorem nb_in {w : Cond} (i : Nat) (h : lw_tbl[i]? = some w) (hg : isNB w = true) : w ∈ NB := List.mem_filter.mpr ⟨List.mem_of_getElem? h, hg⟩
theorem ao_moved {t : FieldType} {u U : State} (hvm : u.vm.Alike U.vm) (h : (Cond.arrayOver (.array t)).before #[] u = true) : (Cond.arrayOver (.array t)).before #[] U = true := by
  obtain ⟨comp, c, k, h1, h2, h3, h4, h5⟩ := arrayOverA_spec h
  obtain ⟨k', hk', he⟩ := hvm.2.2 _ _ h3
  have hi : (U.vm.classes.findIdx? fun (x : Class) => match x.kind with | .array component _ => component == comp | _ => false) = some c := by
    rw [hvm.findIdx?_eq _ (fun _ => rfl)]; exact h2
  have hkind : k'.kind = .array comp (.array t) := by rw [he]; exact h4
  have f1 : U.vm.findClass (FieldType.array t).toString = some comp := by rw [hvm.findClass]; exact h1
  have f2 : U.vm.findClass ("[" ++ (FieldType.array t).toString) = some c := by rw [hvm.findClass]; exact h5
  unfold Cond.before Cond.holds
  simp only [Cond.value]
  rw [f1, Option.bind_some]
  refine (congrArg (fun o : Option Nat => (o.bind (fun c => (U.vm.classes[c]?).map fun (k : Class) => match k.kind with | .array _ ty => decide (ty = FieldType.array t) && decide (U.vm.findClass ("[" ++ (FieldType.array t).toString) = some c) | _ => false) == some true)) hi).trans ?_
  simp [hk', hkind, f2]
theorem nb_warm {w : Cond} (h : isNB w = true) {s U : State} (hW : s.WarmedH U.vm) (hb : w.before #[] s = true) : w.before #[] U = true := by
  cases w with
  | fieldLinkNest => exact va_Nw.warmF hW hb
  | methodLinkNest => exact va_Nw.warmM hW hb
  | castable => exact va_Nw.warmC hW hb
  | declares => exact va_Nw.warmD hW hb
  | arrayOver t =>
    cases t with
    | object C => exact va_AO.moved hW.alike hb
    | array t => exact ao_moved hW.alike hb
    | _ => simp [isNB] at h
  | _ => simp [isNB] at h
theorem nb_args {w : Cond} (h : isNB w = true) {A B : Array Value} {u U : State} (hv : U.vm = u.vm) (hb : w.before A u = true) : w.before B U = true := by
  cases w with
  | fieldLinkNest => exact va_tabs rfl hv.symm hb
  | methodLinkNest => exact va_tabs rfl hv.symm hb
  | castable => exact va_tabs rfl hv.symm hb
  | declares => exact va_tabs rfl hv.symm hb
  | arrayOver t =>
    have ha : u.vm.Alike U.vm := by rw [hv]; exact Vm.Alike.refl _
    cases t with
    | object C => exact va_AO.use (va_AO.moved ha (va_AO.of hb))
    | array t => exact ao_moved ha hb
    | _ => simp [isNB] at h
  | _ => simp [isNB] at h
/-- what stands in the heap at the start and is never written: literals, statics; and the words that ride by laws of their own -/
def ZL (Γ : GE) (A : Nat → Prop) (U : State) (H : Heap) : Prop :=
  vk_S nLit lenLit bytLit Γ.2.2.2.1 Γ.2.2.2.2 A U H ∧ (∀ q ∈ litL, vk_R q.1 q.2.1 q.2.2.1 (Γ.2.2.2.1 q.2.2.2) U) ∧ va_Z "java/lang/String" "COMPACT_STRINGS" "Z" (.int 1) A U H ∧
  vx_Zq Bundle.tN "UNASSIGNED_STACK" Bundle.steD A U H ∧ vx_Zq Bundle.tN "SUPPRESSED_SENTINEL" Bundle.listD A U H ∧ (∀ w ∈ NB, w.before #[] U = true) ∧ va_Zq "jdk/internal/util/Preconditions" "SIOOBE_FORMATTER" "Ljava/util/function/BiFunction;" A U H
theorem ZL.to {Γ : GE} {A B : Nat → Prop} {u U : State} {H H1 : Heap} (hW : u.WarmedH U.vm) (h : ZL Γ A u H) (hq : ∀ a : Nat, a < H.size → ¬ A a → H1[a]? = H[a]?) (hAB : ∀ q, B q → A q) : ZL Γ B U H1 :=
  ⟨vk_S.narrow (vk_S.kept (vk_S.moved hW.alike h.1) hq) hAB, fun q hm => vk_R.warm hW (h.2.1 q hm), va_Z.narrow (va_Z.kept (va_Z.moved hW.alike h.2.2.1) hq) hAB,
    vx_Zq.narrow (vx_Zq.kept (vx_Zq.moved hW.alike h.2.2.2.1) hq) hAB, vx_Zq.narrow (vx_Zq.kept (vx_Zq.moved hW.alike h.2.2.2.2.1) hq) hAB, fun w hw => nb_warm (List.mem_filter.mp hw).2 hW (h.2.2.2.2.2.1 w hw), va_Zq.narrow (va_Zq.kept (va_Zq.moved hW.alike h.2.2.2.2.2.2) hq) hAB⟩
theorem ZL.same {Γ : GE} {A : Nat → Prop} {u U : State} {H : Heap} (hv : U.vm = u.vm) (h : ZL Γ A u H) : ZL Γ A U H := by
  have ha : u.vm.Alike U.vm := by rw [hv]; exact Vm.Alike.refl _
  exact ⟨vk_S.moved ha h.1, fun q hm => vk_R.same hv (h.2.1 q hm), va_Z.moved ha h.2.2.1, vx_Zq.moved ha h.2.2.2.1, vx_Zq.moved ha h.2.2.2.2.1, fun w hw => nb_args (List.mem_filter.mp hw).2 hv (h.2.2.2.2.2.1 w hw), va_Zq.moved ha h.2.2.2.2.2.2⟩
theorem ZL.nb {Γ : GE} {A : Nat → Prop} {s : State} {H : Heap} {w : Cond} {args : Array Value} (h : ZL Γ A s H) (hw : w ∈ NB) : w.before args s = true := nb_args (List.mem_filter.mp hw).2 rfl (h.2.2.2.2.2.1 w hw)
def Ct (Γ : GE) (μ : MS) (A : Nat → Prop) (p : Program) (e : Env) (s : State) (m : MethodId) (args : Array Value) (meth : Method) (c : Code) : Prop :=
  p.tables.exec = Jvm.exec ∧ c.code = μ.2.1 ∧ c.maxLocals = μ.2.2.1 ∧ s.vm.findClass μ.1 = some m.cls ∧ (∀ w ∈ TB, w.before args s = true) ∧ meth.sig.returnType = μ.2.2.2.1 ∧ meth.locks = false ∧ meth.name = μ.2.2.2.2.1 ∧ va_K Γ.2.1 cls (tyL Γ.2.2.1) s ∧ (∀ q, s.heap.size ≤ q → A q) ∧ ZL Γ A s s.heap ∧ Γ.1.stackTraces = false ∧ c.exceptionTable.toList = tableOf μ.2.2.2.2.2.2
def G (Γ : GE) (μ : MS) (A : Nat → Prop) (E : List Frame → Array Value → State → State → Prop) (ce sl : Nat) (M : HM) (n pc : Nat) (vs : List (Option Value)) (st : List Value) : Prop :=
  ∀ (p : Program) (e : Env) (s : State) (m : MethodId) (args : Array Value) (below : List Frame) (meth : Method) (c : Code) (H : Heap) (locs : List Loc) (ls : Array Slot),
    Ct Γ μ A p e s m args meth c → HH Γ.2.1 cls M H → H.size = n → (∀ q, M q ≠ none → A q) → va_S A s.heap H locs → LV ls μ.2.2.1 vs →
    W p Γ.1 e μ.2.2.2.2.2.1 s m args below meth c H locs ce sl (E below args s) (F0 m pc ls st)
/-- what a method may write: the map's cells, and new ones -/
def AA (M : HM) (n : Nat) : Nat → Prop := fun q => M q ≠ none ∨ n ≤ q
def PC (Γ : GE) (av : List Value) (M : HM) (n : Nat) : Array Value → State → Prop := va_Pc av (fun U => HH Γ.2.1 cls M U.heap ∧ U.heap.size = n ∧ va_K Γ.2.1 cls (tyL Γ.2.2.1) U ∧ ZL Γ (AA M n) U U.heap ∧ Γ.1.stackTraces = false)
def QC (Γ : GE) (A : Nat → Prop) (Q : Option Value → HM → Nat → Prop) : Array Value → State → Outcome → State → Prop := fun _ st o t =>
  (∃ (v : Option Value) (M : HM), o = .returned v ∧ HH Γ.2.1 cls M t.heap ∧ (∀ q, M q ≠ none → A q) ∧ Q v M t.heap.size) ∧ va_F A st t
def XQ (Γ : GE) (A : Nat → Prop) (X : String → HM → Nat → Prop) : String → State → State → Prop := fun C st t =>
  (∃ (M : HM), HH Γ.2.1 cls M t.heap ∧ (∀ q, M q ≠ none → A q) ∧ X C M t.heap.size) ∧ va_F A st t
def EM (Γ : GE) (μ : MS) (A : Nat → Prop) (Q : Option Value → HM → Nat → Prop) : List Frame → Array Value → State → State → Prop :=
  fun below args s => MQ below (QC Γ A Q) args s μ.2.2.2.2.2.1.cells μ.2.2.2.2.2.1.slots A
def EX (Γ : GE) (μ : MS) (A : Nat → Prop) (Q : Option Value → HM → Nat → Prop) (X : String → HM → Nat → Prop) : List Frame → Array Value → State → State → Prop :=
  fun below args s => vx_MQ below (QC Γ A Q) (XQ Γ A X) args s μ.2.2.2.2.2.1.cells μ.2.2.2.2.2.1.slots A
/-- a method's contract; and one that may throw -/
def CT (Γ : GE) (μ : MS) (y : MethodName) (av : List Value) (M : HM) (n : Nat) (Q : Option Value → HM → Nat → Prop) : Prop :=
  Met Γ.1 y (Cond.code y μ.2.1 μ.2.2.1 μ.2.2.2.1 :: TB) μ.2.2.2.2.2.1 (PC Γ av M n) (QC Γ (AA M n) Q) μ.2.2.2.2.2.1.cells μ.2.2.2.2.2.1.slots (AA M n)
def CX (Γ : GE) (μ : MS) (y : MethodName) (av : List Value) (M : HM) (n : Nat) (Q : Option Value → HM → Nat → Prop) (X : String → HM → Nat → Prop) : Prop :=
  vx_Met Γ.1 y (Cond.code y μ.2.1 μ.2.2.1 μ.2.2.2.1 :: TB) μ.2.2.2.2.2.1 (PC Γ av M n) (QC Γ (AA M n) Q) (XQ Γ (AA M n) X) μ.2.2.2.2.2.1.cells μ.2.2.2.2.2.1.slots (AA M n)
section GR
variable {Γ : GE} {μ : MS} {A : Nat → Prop} {E : List Frame → Array Value → State → State → Prop} {ce sl : Nat} {M : HM} {n pc : Nat} {vs : List (Option Value)} {st : List Value}

theorem g_iconst {z : Int} (hd : decode μ.2.1 pc = .ok (.iconst z, 1)) (k : G Γ μ A E ce sl M n (pc + 1) vs (.int (iI z) :: st)) : G Γ μ A E ce sl M n pc vs (st) := by
  intro p e s m args below meth c H locs ls C h1 h2 h3 h4 h5
  refine lv_iconst C.1 C.2.1 hd rfl ?_
  exact k p e s m args below meth c H locs ls C h1 h2 h3 h4 h5
theorem g_bipush {z : Int} (hd : decode μ.2.1 pc = .ok (.bipush z, 2)) (hz : (Int8.ofInt z).toInt32 = iI z) (k : G Γ μ A E ce sl M n (pc + 2) vs (.int (iI z) :: st)) : G Γ μ A E ce sl M n pc vs (st) := by
  intro p e s m args below meth c H locs ls C h1 h2 h3 h4 h5
  refine lv_bipush C.1 C.2.1 hd hz ?_
  exact k p e s m args below meth c H locs ls C h1 h2 h3 h4 h5
theorem g_sipush {z : Int} (hd : decode μ.2.1 pc = .ok (.sipush z, 3)) (hz : (Int16.ofInt z).toInt32 = iI z) (k : G Γ μ A E ce sl M n (pc + 3) vs (.int (iI z) :: st)) : G Γ μ A E ce sl M n pc vs (st) := by
  intro p e s m args below meth c H locs ls C h1 h2 h3 h4 h5
  refine lv_sipush C.1 C.2.1 hd hz ?_
  exact k p e s m args below meth c H locs ls C h1 h2 h3 h4 h5
theorem g_null  (hd : decode μ.2.1 pc = .ok (.aconst_null, 1)) (k : G Γ μ A E ce sl M n (pc + 1) vs (.null :: st)) : G Γ μ A E ce sl M n pc vs (st) := by
  intro p e s m args below meth c H locs ls C h1 h2 h3 h4 h5
  refine lv_null C.1 C.2.1 hd  ?_
  exact k p e s m args below meth c H locs ls C h1 h2 h3 h4 h5
theorem g_iload_n {i : Fin 4} {z : Int} (hd : decode μ.2.1 pc = .ok (.iload_n i, 1)) (hv : vs[(i : Nat)]? = some (some (.int (iI z)))) (k : G Γ μ A E ce sl M n (pc + 1) vs (.int (iI z) :: st)) : G Γ μ A E ce sl M n pc vs st := by
  intro p e s m args below meth c H locs ls C h1 h2 h3 h4 h5
  exact lv_iload_n C.1 C.2.1 hd rfl (h5.at hv) (k p e s m args below meth c H locs ls C h1 h2 h3 h4 h5)
theorem g_iload {i : Nat} {z : Int} (hd : decode μ.2.1 pc = .ok (.iload i, 2)) (hv : vs[i]? = some (some (.int (iI z)))) (k : G Γ μ A E ce sl M n (pc + 2) vs (.int (iI z) :: st)) : G Γ μ A E ce sl M n pc vs st := by
  intro p e s m args below meth c H locs ls C h1 h2 h3 h4 h5
  exact lv_iload C.1 C.2.1 hd (h5.at hv) (k p e s m args below meth c H locs ls C h1 h2 h3 h4 h5)
theorem g_aload_n {i : Fin 4} {z : Nat} (hd : decode μ.2.1 pc = .ok (.aload_n i, 1)) (hv : vs[(i : Nat)]? = some (some (.ref z))) (k : G Γ μ A E ce sl M n (pc + 1) vs (.ref z :: st)) : G Γ μ A E ce sl M n pc vs st := by
  intro p e s m args below meth c H locs ls C h1 h2 h3 h4 h5
  exact lv_aload_n C.1 C.2.1 hd rfl (h5.at hv) (k p e s m args below meth c H locs ls C h1 h2 h3 h4 h5)
theorem g_aload {i : Nat} {z : Nat} (hd : decode μ.2.1 pc = .ok (.aload i, 2)) (hv : vs[i]? = some (some (.ref z))) (k : G Γ μ A E ce sl M n (pc + 2) vs (.ref z :: st)) : G Γ μ A E ce sl M n pc vs st := by
  intro p e s m args below meth c H locs ls C h1 h2 h3 h4 h5
  exact lv_aload C.1 C.2.1 hd (h5.at hv) (k p e s m args below meth c H locs ls C h1 h2 h3 h4 h5)
theorem g_lload_n {i : Fin 4} {z : Int64} (hd : decode μ.2.1 pc = .ok (.lload_n i, 1)) (hv : vs[(i : Nat)]? = some (some (.long z))) (k : G Γ μ A E ce sl M n (pc + 1) vs (.long z :: st)) : G Γ μ A E ce sl M n pc vs st := by
  intro p e s m args below meth c H locs ls C h1 h2 h3 h4 h5
  exact lv_lload_n C.1 C.2.1 hd rfl (h5.at hv) (k p e s m args below meth c H locs ls C h1 h2 h3 h4 h5)
theorem g_lload {i : Nat} {z : Int64} (hd : decode μ.2.1 pc = .ok (.lload i, 2)) (hv : vs[i]? = some (some (.long z))) (k : G Γ μ A E ce sl M n (pc + 2) vs (.long z :: st)) : G Γ μ A E ce sl M n pc vs st := by
  intro p e s m args below meth c H locs ls C h1 h2 h3 h4 h5
  exact lv_lload C.1 C.2.1 hd (h5.at hv) (k p e s m args below meth c H locs ls C h1 h2 h3 h4 h5)
theorem g_aload_nN {i : Fin 4} (hd : decode μ.2.1 pc = .ok (.aload_n i, 1)) (hv : vs[(i : Nat)]? = some (some .null)) (k : G Γ μ A E ce sl M n (pc + 1) vs (.null :: st)) : G Γ μ A E ce sl M n pc vs st := by
  intro p e s m args below meth c H locs ls C h1 h2 h3 h4 h5
  exact lv_aload_nN C.1 C.2.1 hd rfl (h5.at hv) (k p e s m args below meth c H locs ls C h1 h2 h3 h4 h5)
theorem g_aloadN {i : Nat} (hd : decode μ.2.1 pc = .ok (.aload i, 2)) (hv : vs[i]? = some (some .null)) (k : G Γ μ A E ce sl M n (pc + 2) vs (.null :: st)) : G Γ μ A E ce sl M n pc vs st := by
  intro p e s m args below meth c H locs ls C h1 h2 h3 h4 h5
  exact lv_aloadN C.1 C.2.1 hd (h5.at hv) (k p e s m args below meth c H locs ls C h1 h2 h3 h4 h5)
theorem g_istore_n {i : Fin 4} {z : Int} (hd : decode μ.2.1 pc = .ok (.istore_n i, 1)) (hi : (i : Nat) < μ.2.2.1) (hf : lvFree vs i = true) (k : G Γ μ A E ce sl M n (pc + 1) (vs.set i (some (.int (iI z)))) st) : G Γ μ A E ce sl M n pc vs (.int (iI z) :: st) := by
  intro p e s m args below meth c H locs ls C h1 h2 h3 h4 h5
  exact lv_istore_n C.1 C.2.1 hd rfl h5 hi rfl (fun ls hl => k p e s m args below meth c H locs ls C h1 h2 h3 h4 (LV.st1 hf hl))
theorem g_istore {i : Nat} {z : Int} (hd : decode μ.2.1 pc = .ok (.istore i, 2)) (hi : i < μ.2.2.1) (hf : lvFree vs i = true) (k : G Γ μ A E ce sl M n (pc + 2) (vs.set i (some (.int (iI z)))) st) : G Γ μ A E ce sl M n pc vs (.int (iI z) :: st) := by
  intro p e s m args below meth c H locs ls C h1 h2 h3 h4 h5
  exact lv_istore C.1 C.2.1 hd h5 hi rfl (fun ls hl => k p e s m args below meth c H locs ls C h1 h2 h3 h4 (LV.st1 hf hl))
theorem g_astore_n {i : Fin 4} {z : Nat} (hd : decode μ.2.1 pc = .ok (.astore_n i, 1)) (hi : (i : Nat) < μ.2.2.1) (hf : lvFree vs i = true) (k : G Γ μ A E ce sl M n (pc + 1) (vs.set i (some (.ref z))) st) : G Γ μ A E ce sl M n pc vs (.ref z :: st) := by
  intro p e s m args below meth c H locs ls C h1 h2 h3 h4 h5
  exact lv_astore_n C.1 C.2.1 hd rfl h5 hi rfl (fun ls hl => k p e s m args below meth c H locs ls C h1 h2 h3 h4 (LV.st1 hf hl))
theorem g_astore {i : Nat} {z : Nat} (hd : decode μ.2.1 pc = .ok (.astore i, 2)) (hi : i < μ.2.2.1) (hf : lvFree vs i = true) (k : G Γ μ A E ce sl M n (pc + 2) (vs.set i (some (.ref z))) st) : G Γ μ A E ce sl M n pc vs (.ref z :: st) := by
  intro p e s m args below meth c H locs ls C h1 h2 h3 h4 h5
  exact lv_astore C.1 C.2.1 hd h5 hi rfl (fun ls hl => k p e s m args below meth c H locs ls C h1 h2 h3 h4 (LV.st1 hf hl))
theorem g_astore_nN {i : Fin 4}  (hd : decode μ.2.1 pc = .ok (.astore_n i, 1)) (hi : (i : Nat) < μ.2.2.1) (hf : lvFree vs i = true) (k : G Γ μ A E ce sl M n (pc + 1) (vs.set i (some (.null))) st) : G Γ μ A E ce sl M n pc vs (.null :: st) := by
  intro p e s m args below meth c H locs ls C h1 h2 h3 h4 h5
  exact lv_astore_nN C.1 C.2.1 hd rfl h5 hi rfl (fun ls hl => k p e s m args below meth c H locs ls C h1 h2 h3 h4 (LV.st1 hf hl))
theorem g_astoreN {i : Nat}  (hd : decode μ.2.1 pc = .ok (.astore i, 2)) (hi : i < μ.2.2.1) (hf : lvFree vs i = true) (k : G Γ μ A E ce sl M n (pc + 2) (vs.set i (some (.null))) st) : G Γ μ A E ce sl M n pc vs (.null :: st) := by
  intro p e s m args below meth c H locs ls C h1 h2 h3 h4 h5
  exact lv_astoreN C.1 C.2.1 hd h5 hi rfl (fun ls hl => k p e s m args below meth c H locs ls C h1 h2 h3 h4 (LV.st1 hf hl))
theorem g_iinc {i : Nat} {z d : Int} (hd : decode μ.2.1 pc = .ok (.iinc i d, 3)) (hv : vs[i]? = some (some (.int (iI z)))) (hi : i < μ.2.2.1) (hf : lvFree vs i = true) (k : G Γ μ A E ce sl M n (pc + 3) (vs.set i (some (.int (iI (z + d))))) st) : G Γ μ A E ce sl M n pc vs st := by
  intro p e s m args below meth c H locs ls C h1 h2 h3 h4 h5
  obtain ⟨j, hj⟩ := List.getElem?_of_mem (lvOf_mem.mpr hv)
  exact lv_iinc C.1 C.2.1 hd h5 hj (iI_add z d) hi rfl (fun ls hl => k p e s m args below meth c H locs ls C h1 h2 h3 h4 (LV.st1 hf hl))
theorem g_iadd {x y : Int} (hd : decode μ.2.1 pc = .ok (.iadd, 1)) (k : G Γ μ A E ce sl M n (pc + 1) vs (.int (iI (x + y)) :: st)) : G Γ μ A E ce sl M n pc vs (.int (iI y) :: .int (iI x) :: st) := by
  intro p e s m args below meth c H locs ls C h1 h2 h3 h4 h5
  refine lv_iadd C.1 C.2.1 hd  ?_
  rw [iI_add]
  exact k p e s m args below meth c H locs ls C h1 h2 h3 h4 h5
theorem g_isub {x y : Int} (hd : decode μ.2.1 pc = .ok (.isub, 1)) (k : G Γ μ A E ce sl M n (pc + 1) vs (.int (iI (x - y)) :: st)) : G Γ μ A E ce sl M n pc vs (.int (iI y) :: .int (iI x) :: st) := by
  intro p e s m args below meth c H locs ls C h1 h2 h3 h4 h5
  refine lv_isub C.1 C.2.1 hd  ?_
  rw [iI_sub]
  exact k p e s m args below meth c H locs ls C h1 h2 h3 h4 h5
theorem g_imul {x y : Int} (hd : decode μ.2.1 pc = .ok (.imul, 1)) (k : G Γ μ A E ce sl M n (pc + 1) vs (.int (iI (x * y)) :: st)) : G Γ μ A E ce sl M n pc vs (.int (iI y) :: .int (iI x) :: st) := by
  intro p e s m args below meth c H locs ls C h1 h2 h3 h4 h5
  refine lv_imul C.1 C.2.1 hd  ?_
  rw [iI_mul]
  exact k p e s m args below meth c H locs ls C h1 h2 h3 h4 h5
theorem g_ineg {x : Int} (hd : decode μ.2.1 pc = .ok (.ineg, 1)) (k : G Γ μ A E ce sl M n (pc + 1) vs (.int (iI (-x)) :: st)) : G Γ μ A E ce sl M n pc vs (.int (iI x) :: st) := by
  intro p e s m args below meth c H locs ls C h1 h2 h3 h4 h5
  refine lv_ineg C.1 C.2.1 hd  ?_
  rw [iI_neg]
  exact k p e s m args below meth c H locs ls C h1 h2 h3 h4 h5
theorem g_iand {x y : Int32} {z : Int} (hd : decode μ.2.1 pc = .ok (.iand, 1)) (hz : x &&& y = iI z) (k : G Γ μ A E ce sl M n (pc + 1) vs (.int (iI z) :: st)) : G Γ μ A E ce sl M n pc vs (.int y :: .int x :: st) := by
  intro p e s m args below meth c H locs ls C h1 h2 h3 h4 h5
  refine lv_iand C.1 C.2.1 hd ?_
  rw [hz]
  exact k p e s m args below meth c H locs ls C h1 h2 h3 h4 h5
theorem g_ior {x y : Int32} {z : Int} (hd : decode μ.2.1 pc = .ok (.ior, 1)) (hz : x ||| y = iI z) (k : G Γ μ A E ce sl M n (pc + 1) vs (.int (iI z) :: st)) : G Γ μ A E ce sl M n pc vs (.int y :: .int x :: st) := by
  intro p e s m args below meth c H locs ls C h1 h2 h3 h4 h5
  refine lv_ior C.1 C.2.1 hd ?_
  rw [hz]
  exact k p e s m args below meth c H locs ls C h1 h2 h3 h4 h5
theorem g_ixor {x y : Int32} {z : Int} (hd : decode μ.2.1 pc = .ok (.ixor, 1)) (hz : x ^^^ y = iI z) (k : G Γ μ A E ce sl M n (pc + 1) vs (.int (iI z) :: st)) : G Γ μ A E ce sl M n pc vs (.int y :: .int x :: st) := by
  intro p e s m args below meth c H locs ls C h1 h2 h3 h4 h5
  refine lv_ixor C.1 C.2.1 hd ?_
  rw [hz]
  exact k p e s m args below meth c H locs ls C h1 h2 h3 h4 h5
theorem g_ishl {x y : Int32} {z : Int} (hd : decode μ.2.1 pc = .ok (.ishl, 1)) (hz : x <<< (y &&& 31) = iI z) (k : G Γ μ A E ce sl M n (pc + 1) vs (.int (iI z) :: st)) : G Γ μ A E ce sl M n pc vs (.int y :: .int x :: st) := by
  intro p e s m args below meth c H locs ls C h1 h2 h3 h4 h5
  refine lv_ishl C.1 C.2.1 hd ?_
  rw [hz]
  exact k p e s m args below meth c H locs ls C h1 h2 h3 h4 h5
theorem g_ishr {x y : Int32} {z : Int} (hd : decode μ.2.1 pc = .ok (.ishr, 1)) (hz : x >>> (y &&& 31) = iI z) (k : G Γ μ A E ce sl M n (pc + 1) vs (.int (iI z) :: st)) : G Γ μ A E ce sl M n pc vs (.int y :: .int x :: st) := by
  intro p e s m args below meth c H locs ls C h1 h2 h3 h4 h5
  refine lv_ishr C.1 C.2.1 hd ?_
  rw [hz]
  exact k p e s m args below meth c H locs ls C h1 h2 h3 h4 h5
theorem g_i2c {x : Int32} {z : Int} (hd : decode μ.2.1 pc = .ok (.i2c, 1)) (hz : (x.toUInt32 % 65536).toInt32 = iI z) (k : G Γ μ A E ce sl M n (pc + 1) vs (.int (iI z) :: st)) : G Γ μ A E ce sl M n pc vs (.int x :: st) := by
  intro p e s m args below meth c H locs ls C h1 h2 h3 h4 h5
  exact lv_i2c C.1 C.2.1 hd hz (k p e s m args below meth c H locs ls C h1 h2 h3 h4 h5)
theorem g_i2b {x : Int32} {z : Int} (hd : decode μ.2.1 pc = .ok (.i2b, 1)) (hz : x.toInt8.toInt32 = iI z) (k : G Γ μ A E ce sl M n (pc + 1) vs (.int (iI z) :: st)) : G Γ μ A E ce sl M n pc vs (.int x :: st) := by
  intro p e s m args below meth c H locs ls C h1 h2 h3 h4 h5
  exact lv_i2b C.1 C.2.1 hd hz (k p e s m args below meth c H locs ls C h1 h2 h3 h4 h5)
theorem g_l2i {x : Int64} {z : Int} (hd : decode μ.2.1 pc = .ok (.l2i, 1)) (hz : x.toInt32 = iI z) (k : G Γ μ A E ce sl M n (pc + 1) vs (.int (iI z) :: st)) : G Γ μ A E ce sl M n pc vs (.long x :: st) := by
  intro p e s m args below meth c H locs ls C h1 h2 h3 h4 h5
  exact lv_l2i C.1 C.2.1 hd hz (k p e s m args below meth c H locs ls C h1 h2 h3 h4 h5)
theorem g_i2l {x : Int32} {z : Int64} (hd : decode μ.2.1 pc = .ok (.i2l, 1)) (hz : x.toInt64 = z) (k : G Γ μ A E ce sl M n (pc + 1) vs (.long z :: st)) : G Γ μ A E ce sl M n pc vs (.int x :: st) := by
  intro p e s m args below meth c H locs ls C h1 h2 h3 h4 h5
  exact lv_i2l C.1 C.2.1 hd hz (k p e s m args below meth c H locs ls C h1 h2 h3 h4 h5)
theorem g_lushr {x v : Int64} {y : Int32} (hd : decode μ.2.1 pc = .ok (.lushr, 1)) (hv : (x.toUInt64 >>> (y.toInt64.toUInt64 &&& Int64.toUInt64 63)).toInt64 = v) (k : G Γ μ A E ce sl M n (pc + 1) vs (.long v :: st)) : G Γ μ A E ce sl M n pc vs (.int y :: .long x :: st) := by
  intro p e s m args below meth c H locs ls C h1 h2 h3 h4 h5
  exact lv_lushr C.1 C.2.1 hd hv (k p e s m args below meth c H locs ls C h1 h2 h3 h4 h5)
theorem g_lshl {x v : Int64} {y : Int32} (hd : decode μ.2.1 pc = .ok (.lshl, 1)) (hv : x <<< (y.toInt64 &&& 63) = v) (k : G Γ μ A E ce sl M n (pc + 1) vs (.long v :: st)) : G Γ μ A E ce sl M n pc vs (.int y :: .long x :: st) := by
  intro p e s m args below meth c H locs ls C h1 h2 h3 h4 h5
  exact lv_lshl C.1 C.2.1 hd hv (k p e s m args below meth c H locs ls C h1 h2 h3 h4 h5)
theorem g_lor {x y : Int64} (hd : decode μ.2.1 pc = .ok (.lor, 1)) (k : G Γ μ A E ce sl M n (pc + 1) vs (.long (x ||| y) :: st)) : G Γ μ A E ce sl M n pc vs (.long y :: .long x :: st) := by
  intro p e s m args below meth c H locs ls C h1 h2 h3 h4 h5
  exact lv_lor C.1 C.2.1 hd (k p e s m args below meth c H locs ls C h1 h2 h3 h4 h5)
theorem g_land {x y : Int64} (hd : decode μ.2.1 pc = .ok (.land, 1)) (k : G Γ μ A E ce sl M n (pc + 1) vs (.long (x &&& y) :: st)) : G Γ μ A E ce sl M n pc vs (.long y :: .long x :: st) := by
  intro p e s m args below meth c H locs ls C h1 h2 h3 h4 h5
  exact lv_land C.1 C.2.1 hd (k p e s m args below meth c H locs ls C h1 h2 h3 h4 h5)
theorem g_dup {v : Value} (hd : decode μ.2.1 pc = .ok (.dup, 1)) (hv : v.category = 1) (k : G Γ μ A E ce sl M n (pc + 1) vs (v :: v :: st)) : G Γ μ A E ce sl M n pc vs (v :: st) := by
  intro p e s m args below meth c H locs ls C h1 h2 h3 h4 h5
  refine lv_dup C.1 C.2.1 hd hv ?_
  exact k p e s m args below meth c H locs ls C h1 h2 h3 h4 h5
theorem g_pop {v : Value} (hd : decode μ.2.1 pc = .ok (.pop, 1)) (hv : v.category = 1) (k : G Γ μ A E ce sl M n (pc + 1) vs (st)) : G Γ μ A E ce sl M n pc vs (v :: st) := by
  intro p e s m args below meth c H locs ls C h1 h2 h3 h4 h5
  refine lv_pop C.1 C.2.1 hd hv ?_
  exact k p e s m args below meth c H locs ls C h1 h2 h3 h4 h5
theorem g_dup_x1 {v w : Value} (hd : decode μ.2.1 pc = .ok (.dup_x1, 1)) (hv : v.category = 1) (hw : w.category = 1) (k : G Γ μ A E ce sl M n (pc + 1) vs (v :: w :: v :: st)) : G Γ μ A E ce sl M n pc vs (v :: w :: st) := by
  intro p e s m args below meth c H locs ls C h1 h2 h3 h4 h5
  refine lv_dup_x1 C.1 C.2.1 hd hv hw ?_
  exact k p e s m args below meth c H locs ls C h1 h2 h3 h4 h5
theorem g_dup2 {v w : Value} (hd : decode μ.2.1 pc = .ok (.dup2, 1)) (hv : v.category = 1) (hw : w.category = 1) (k : G Γ μ A E ce sl M n (pc + 1) vs (v :: w :: v :: w :: st)) : G Γ μ A E ce sl M n pc vs (v :: w :: st) := by
  intro p e s m args below meth c H locs ls C h1 h2 h3 h4 h5
  refine lv_dup2_11 C.1 C.2.1 hd hv hw ?_
  exact k p e s m args below meth c H locs ls C h1 h2 h3 h4 h5
theorem g_icmp_eq {x y : Int} {off : Int} {tgt : Nat} (hd : decode μ.2.1 pc = .ok (.if_icmp .eq off, 3)) (ht : (pc : Int) + off = (tgt : Int)) (kt : x = y → G Γ μ A E ce sl M n tgt vs st) (kf : ¬ x = y → G Γ μ A E ce sl M n (pc + 3) vs st) (x1 : -2147483648 ≤ x := by omega) (x2 : x < 2147483648 := by omega) (y1 : -2147483648 ≤ y := by omega) (y2 : y < 2147483648 := by omega) : G Γ μ A E ce sl M n pc vs (.int (iI y) :: .int (iI x) :: st) := by
  intro p e s m args below meth c H locs ls C h1 h2 h3 h4 h5
  exact lv_icmp_eq C.1 C.2.1 hd ht (fun q => kt ((iI_eq x1 x2 y1 y2).mp q) p e s m args below meth c H locs ls C h1 h2 h3 h4 h5) (fun q => kf (fun z => q ((iI_eq x1 x2 y1 y2).mpr z)) p e s m args below meth c H locs ls C h1 h2 h3 h4 h5)
theorem g_icmp_ne {x y : Int} {off : Int} {tgt : Nat} (hd : decode μ.2.1 pc = .ok (.if_icmp .ne off, 3)) (ht : (pc : Int) + off = (tgt : Int)) (kt : ¬ x = y → G Γ μ A E ce sl M n tgt vs st) (kf : x = y → G Γ μ A E ce sl M n (pc + 3) vs st) (x1 : -2147483648 ≤ x := by omega) (x2 : x < 2147483648 := by omega) (y1 : -2147483648 ≤ y := by omega) (y2 : y < 2147483648 := by omega) : G Γ μ A E ce sl M n pc vs (.int (iI y) :: .int (iI x) :: st) := by
  intro p e s m args below meth c H locs ls C h1 h2 h3 h4 h5
  exact lv_icmp_ne C.1 C.2.1 hd ht (fun q => kt (fun z => q ((iI_eq x1 x2 y1 y2).mpr z)) p e s m args below meth c H locs ls C h1 h2 h3 h4 h5) (fun q => kf ((iI_eq x1 x2 y1 y2).mp q) p e s m args below meth c H locs ls C h1 h2 h3 h4 h5)
theorem g_icmp_lt {x y : Int} {off : Int} {tgt : Nat} (hd : decode μ.2.1 pc = .ok (.if_icmp .lt off, 3)) (ht : (pc : Int) + off = (tgt : Int)) (kt : x < y → G Γ μ A E ce sl M n tgt vs st) (kf : ¬ x < y → G Γ μ A E ce sl M n (pc + 3) vs st) (x1 : -2147483648 ≤ x := by omega) (x2 : x < 2147483648 := by omega) (y1 : -2147483648 ≤ y := by omega) (y2 : y < 2147483648 := by omega) : G Γ μ A E ce sl M n pc vs (.int (iI y) :: .int (iI x) :: st) := by
  intro p e s m args below meth c H locs ls C h1 h2 h3 h4 h5
  exact lv_icmp_lt C.1 C.2.1 hd ht (fun q => kt ((iI_lt x1 x2 y1 y2).mp q) p e s m args below meth c H locs ls C h1 h2 h3 h4 h5) (fun q => kf (fun z => q ((iI_lt x1 x2 y1 y2).mpr z)) p e s m args below meth c H locs ls C h1 h2 h3 h4 h5)
theorem g_icmp_ge {x y : Int} {off : Int} {tgt : Nat} (hd : decode μ.2.1 pc = .ok (.if_icmp .ge off, 3)) (ht : (pc : Int) + off = (tgt : Int)) (kt : y ≤ x → G Γ μ A E ce sl M n tgt vs st) (kf : ¬ y ≤ x → G Γ μ A E ce sl M n (pc + 3) vs st) (x1 : -2147483648 ≤ x := by omega) (x2 : x < 2147483648 := by omega) (y1 : -2147483648 ≤ y := by omega) (y2 : y < 2147483648 := by omega) : G Γ μ A E ce sl M n pc vs (.int (iI y) :: .int (iI x) :: st) := by
  intro p e s m args below meth c H locs ls C h1 h2 h3 h4 h5
  exact lv_icmp_ge C.1 C.2.1 hd ht (fun q => kt ((iI_le y1 y2 x1 x2).mp q) p e s m args below meth c H locs ls C h1 h2 h3 h4 h5) (fun q => kf (fun z => q ((iI_le y1 y2 x1 x2).mpr z)) p e s m args below meth c H locs ls C h1 h2 h3 h4 h5)
theorem g_icmp_gt {x y : Int} {off : Int} {tgt : Nat} (hd : decode μ.2.1 pc = .ok (.if_icmp .gt off, 3)) (ht : (pc : Int) + off = (tgt : Int)) (kt : y < x → G Γ μ A E ce sl M n tgt vs st) (kf : ¬ y < x → G Γ μ A E ce sl M n (pc + 3) vs st) (x1 : -2147483648 ≤ x := by omega) (x2 : x < 2147483648 := by omega) (y1 : -2147483648 ≤ y := by omega) (y2 : y < 2147483648 := by omega) : G Γ μ A E ce sl M n pc vs (.int (iI y) :: .int (iI x) :: st) := by
  intro p e s m args below meth c H locs ls C h1 h2 h3 h4 h5
  exact lv_icmp_gt C.1 C.2.1 hd ht (fun q => kt ((iI_lt y1 y2 x1 x2).mp q) p e s m args below meth c H locs ls C h1 h2 h3 h4 h5) (fun q => kf (fun z => q ((iI_lt y1 y2 x1 x2).mpr z)) p e s m args below meth c H locs ls C h1 h2 h3 h4 h5)
theorem g_icmp_le {x y : Int} {off : Int} {tgt : Nat} (hd : decode μ.2.1 pc = .ok (.if_icmp .le off, 3)) (ht : (pc : Int) + off = (tgt : Int)) (kt : x ≤ y → G Γ μ A E ce sl M n tgt vs st) (kf : ¬ x ≤ y → G Γ μ A E ce sl M n (pc + 3) vs st) (x1 : -2147483648 ≤ x := by omega) (x2 : x < 2147483648 := by omega) (y1 : -2147483648 ≤ y := by omega) (y2 : y < 2147483648 := by omega) : G Γ μ A E ce sl M n pc vs (.int (iI y) :: .int (iI x) :: st) := by
  intro p e s m args below meth c H locs ls C h1 h2 h3 h4 h5
  exact lv_icmp_le C.1 C.2.1 hd ht (fun q => kt ((iI_le x1 x2 y1 y2).mp q) p e s m args below meth c H locs ls C h1 h2 h3 h4 h5) (fun q => kf (fun z => q ((iI_le x1 x2 y1 y2).mpr z)) p e s m args below meth c H locs ls C h1 h2 h3 h4 h5)
theorem g_if_eq {x : Int} {off : Int} {tgt : Nat} (hd : decode μ.2.1 pc = .ok (.ifCond .eq off, 3)) (ht : (pc : Int) + off = (tgt : Int)) (kt : x = 0 → G Γ μ A E ce sl M n tgt vs st) (kf : ¬ x = 0 → G Γ μ A E ce sl M n (pc + 3) vs st) (x1 : -2147483648 ≤ x := by omega) (x2 : x < 2147483648 := by omega) : G Γ μ A E ce sl M n pc vs (.int (iI x) :: st) := by
  intro p e s m args below meth c H locs ls C h1 h2 h3 h4 h5
  have z1 : (-2147483648 : Int) ≤ 0 := by omega
  have z2 : (0 : Int) < 2147483648 := by omega
  exact lv_if_eq C.1 C.2.1 hd ht (fun q => kt ((iI_eq x1 x2 z1 z2).mp q) p e s m args below meth c H locs ls C h1 h2 h3 h4 h5) (fun q => kf (fun z => q ((iI_eq x1 x2 z1 z2).mpr z)) p e s m args below meth c H locs ls C h1 h2 h3 h4 h5)
theorem g_if_ne {x : Int} {off : Int} {tgt : Nat} (hd : decode μ.2.1 pc = .ok (.ifCond .ne off, 3)) (ht : (pc : Int) + off = (tgt : Int)) (kt : ¬ x = 0 → G Γ μ A E ce sl M n tgt vs st) (kf : x = 0 → G Γ μ A E ce sl M n (pc + 3) vs st) (x1 : -2147483648 ≤ x := by omega) (x2 : x < 2147483648 := by omega) : G Γ μ A E ce sl M n pc vs (.int (iI x) :: st) := by
  intro p e s m args below meth c H locs ls C h1 h2 h3 h4 h5
  have z1 : (-2147483648 : Int) ≤ 0 := by omega
  have z2 : (0 : Int) < 2147483648 := by omega
  exact lv_if_ne C.1 C.2.1 hd ht (fun q => kt (fun z => q ((iI_eq x1 x2 z1 z2).mpr z)) p e s m args below meth c H locs ls C h1 h2 h3 h4 h5) (fun q => kf ((iI_eq x1 x2 z1 z2).mp q) p e s m args below meth c H locs ls C h1 h2 h3 h4 h5)
theorem g_if_lt {x : Int} {off : Int} {tgt : Nat} (hd : decode μ.2.1 pc = .ok (.ifCond .lt off, 3)) (ht : (pc : Int) + off = (tgt : Int)) (kt : x < 0 → G Γ μ A E ce sl M n tgt vs st) (kf : ¬ x < 0 → G Γ μ A E ce sl M n (pc + 3) vs st) (x1 : -2147483648 ≤ x := by omega) (x2 : x < 2147483648 := by omega) : G Γ μ A E ce sl M n pc vs (.int (iI x) :: st) := by
  intro p e s m args below meth c H locs ls C h1 h2 h3 h4 h5
  have z1 : (-2147483648 : Int) ≤ 0 := by omega
  have z2 : (0 : Int) < 2147483648 := by omega
  exact lv_if_lt C.1 C.2.1 hd ht (fun q => kt ((iI_lt x1 x2 z1 z2).mp q) p e s m args below meth c H locs ls C h1 h2 h3 h4 h5) (fun q => kf (fun z => q ((iI_lt x1 x2 z1 z2).mpr z)) p e s m args below meth c H locs ls C h1 h2 h3 h4 h5)
theorem g_if_ge {x : Int} {off : Int} {tgt : Nat} (hd : decode μ.2.1 pc = .ok (.ifCond .ge off, 3)) (ht : (pc : Int) + off = (tgt : Int)) (kt : 0 ≤ x → G Γ μ A E ce sl M n tgt vs st) (kf : ¬ 0 ≤ x → G Γ μ A E ce sl M n (pc + 3) vs st) (x1 : -2147483648 ≤ x := by omega) (x2 : x < 2147483648 := by omega) : G Γ μ A E ce sl M n pc vs (.int (iI x) :: st) := by
  intro p e s m args below meth c H locs ls C h1 h2 h3 h4 h5
  have z1 : (-2147483648 : Int) ≤ 0 := by omega
  have z2 : (0 : Int) < 2147483648 := by omega
  exact lv_if_ge C.1 C.2.1 hd ht (fun q => kt ((iI_le z1 z2 x1 x2).mp q) p e s m args below meth c H locs ls C h1 h2 h3 h4 h5) (fun q => kf (fun z => q ((iI_le z1 z2 x1 x2).mpr z)) p e s m args below meth c H locs ls C h1 h2 h3 h4 h5)
theorem g_if_gt {x : Int} {off : Int} {tgt : Nat} (hd : decode μ.2.1 pc = .ok (.ifCond .gt off, 3)) (ht : (pc : Int) + off = (tgt : Int)) (kt : 0 < x → G Γ μ A E ce sl M n tgt vs st) (kf : ¬ 0 < x → G Γ μ A E ce sl M n (pc + 3) vs st) (x1 : -2147483648 ≤ x := by omega) (x2 : x < 2147483648 := by omega) : G Γ μ A E ce sl M n pc vs (.int (iI x) :: st) := by
  intro p e s m args below meth c H locs ls C h1 h2 h3 h4 h5
  have z1 : (-2147483648 : Int) ≤ 0 := by omega
  have z2 : (0 : Int) < 2147483648 := by omega
  exact lv_if_gt C.1 C.2.1 hd ht (fun q => kt ((iI_lt z1 z2 x1 x2).mp q) p e s m args below meth c H locs ls C h1 h2 h3 h4 h5) (fun q => kf (fun z => q ((iI_lt z1 z2 x1 x2).mpr z)) p e s m args below meth c H locs ls C h1 h2 h3 h4 h5)
theorem g_if_le {x : Int} {off : Int} {tgt : Nat} (hd : decode μ.2.1 pc = .ok (.ifCond .le off, 3)) (ht : (pc : Int) + off = (tgt : Int)) (kt : x ≤ 0 → G Γ μ A E ce sl M n tgt vs st) (kf : ¬ x ≤ 0 → G Γ μ A E ce sl M n (pc + 3) vs st) (x1 : -2147483648 ≤ x := by omega) (x2 : x < 2147483648 := by omega) : G Γ μ A E ce sl M n pc vs (.int (iI x) :: st) := by
  intro p e s m args below meth c H locs ls C h1 h2 h3 h4 h5
  have z1 : (-2147483648 : Int) ≤ 0 := by omega
  have z2 : (0 : Int) < 2147483648 := by omega
  exact lv_if_le C.1 C.2.1 hd ht (fun q => kt ((iI_le x1 x2 z1 z2).mp q) p e s m args below meth c H locs ls C h1 h2 h3 h4 h5) (fun q => kf (fun z => q ((iI_le x1 x2 z1 z2).mpr z)) p e s m args below meth c H locs ls C h1 h2 h3 h4 h5)
theorem g_goto {off : Int} {tgt : Nat} (hd : decode μ.2.1 pc = .ok (.goto off, 3)) (ht : (pc : Int) + off = (tgt : Int)) (k : G Γ μ A E ce sl M n tgt vs st) : G Γ μ A E ce sl M n pc vs st := by
  intro p e s m args below meth c H locs ls C h1 h2 h3 h4 h5
  exact lv_goto C.1 C.2.1 hd ht (k p e s m args below meth c H locs ls C h1 h2 h3 h4 h5)
theorem g_ifnull {a : Nat} {off : Int} (hd : decode μ.2.1 pc = .ok (.ifnull off, 3)) (k : G Γ μ A E ce sl M n (pc + 3) vs st) : G Γ μ A E ce sl M n pc vs (.ref a :: st) := by
  intro p e s m args below meth c H locs ls C h1 h2 h3 h4 h5
  exact lv_ifnull C.1 C.2.1 hd (k p e s m args below meth c H locs ls C h1 h2 h3 h4 h5)
theorem g_ifnullN {off : Int} {tgt : Nat} (hd : decode μ.2.1 pc = .ok (.ifnull off, 3)) (ht : (pc : Int) + off = (tgt : Int)) (k : G Γ μ A E ce sl M n tgt vs st) : G Γ μ A E ce sl M n pc vs (.null :: st) := by
  intro p e s m args below meth c H locs ls C h1 h2 h3 h4 h5
  exact lv_ifnullN C.1 C.2.1 hd ht (k p e s m args below meth c H locs ls C h1 h2 h3 h4 h5)
theorem g_ifnonnull {a : Nat} {off : Int} {tgt : Nat} (hd : decode μ.2.1 pc = .ok (.ifnonnull off, 3)) (ht : (pc : Int) + off = (tgt : Int)) (k : G Γ μ A E ce sl M n tgt vs st) : G Γ μ A E ce sl M n pc vs (.ref a :: st) := by
  intro p e s m args below meth c H locs ls C h1 h2 h3 h4 h5
  exact lv_ifnonnull C.1 C.2.1 hd ht (k p e s m args below meth c H locs ls C h1 h2 h3 h4 h5)
theorem g_ifnonnullN {off : Int} (hd : decode μ.2.1 pc = .ok (.ifnonnull off, 3)) (k : G Γ μ A E ce sl M n (pc + 3) vs st) : G Γ μ A E ce sl M n pc vs (.null :: st) := by
  intro p e s m args below meth c H locs ls C h1 h2 h3 h4 h5
  exact lv_ifnonnullN C.1 C.2.1 hd (k p e s m args below meth c H locs ls C h1 h2 h3 h4 h5)
theorem g_lv {vs' : List (Option Value)} (k : G Γ μ A E ce sl M n pc vs' st) (hs : ∀ (i : Nat) (v : Value), vs'[i]? = some (some v) → vs[i]? = some (some v)) : G Γ μ A E ce sl M n pc vs st := by
  intro p e s m args below meth c H locs ls C h1 h2 h3 h4 h5
  exact k p e s m args below meth c H locs ls C h1 h2 h3 h4 (h5.to hs)
theorem g_widen {ce' sl' : Nat} (hc : ce ≤ ce') (hs : sl ≤ sl') (k : G Γ μ A E ce' sl' M n pc vs st) : G Γ μ A E ce sl M n pc vs st := by
  intro p e s m args below meth c H locs ls C h1 h2 h3 h4 h5
  exact W.widen hc hs (k p e s m args below meth c H locs ls C h1 h2 h3 h4 h5)
end GR
